/** Promises 21 to 27, part 6 of the terms: LANES, FAULTS, MARKS, FEED. */
public final class LaneTest {
    private static final long NONE = GaugeHouse.NONE;

    public static void main(String[] args) {
        refusals();
        making();
        casts();
        items();
        floats();
        marks();
        copies();
        lateCopies();
        measures();
        feeding();
        feedPlaces();
        blocks();
        Bench.end();
    }

    private static void refusals() {
        GaugeHouse x = Bench.with(1, 0).house;
        int[][] none = {{-1, 0}, {1, 0}, {2, 0}, {0, -1}, {0, 3}};
        for (int[] p : none) {
            Bench.due("lane", x.lane(p[0], p[1], 1, 1), -1);
            Bench.due("put", x.put(p[0], p[1], 1, 0, 0), -1);
            Bench.due("get", x.get(p[0], p[1], 1, 0), NONE);
            Bench.due("mark", x.mark(p[0], p[1], 0, -1), -1);
            Bench.due("marked", x.marked(p[0], p[1], 0), NONE);
            Bench.due("copy", x.copy(p[0], p[1], 0, 0, 0, 0, 0), -1);
            Bench.due("copy", x.copy(0, 0, 0, p[0], p[1], 0, 0), -1);
            Bench.due("measure", x.measure(p[0], p[1], 0), -1);
        }
        Bench.due("lane of sort 8", x.lane(0, 0, 8, 1), -1);
        Bench.due("lane of sort -1", x.lane(0, 0, -1, 1), -1);
        Bench.due("lane of 41", x.lane(0, 0, 1, 41), -1);
        Bench.due("put of sort 6", x.put(0, 0, 6, 0, 0), -1);
        Bench.due("put of sort 0", x.put(0, 0, 0, 0, 0), -1);
        Bench.due("get of sort 6", x.get(0, 0, 6, 0), NONE);
        Bench.due("get of sort 0", x.get(0, 0, 0, 0), NONE);
        Bench.due("measure 6", x.measure(0, 0, 6), -1);
        Bench.due("measure -1", x.measure(0, 0, -1), -1);
        Bench.due("mark of no READING", x.mark(0, 0, 0, 0), -1);
        Bench.due("mark of no READING", x.mark(0, 0, 0, -2), -1);
        Bench.due("no FAULT", x.count(7), 0);
    }

    private static void making() {
        GaugeHouse x = Bench.with(1).house;
        Bench.due("nothing", x.measure(0, 0, 0), 0);
        Bench.due("nothing", x.measure(0, 0, 1), 0);
        for (int sort = 1; sort <= 7; sort++) {
            Bench.due("lane", x.lane(0, 0, sort, 40), 1);
            Bench.due("SORT", x.measure(0, 0, 0), sort);
            Bench.due("items", x.measure(0, 0, 1), 40);
            if (sort < 6) Bench.due("0 at first", x.get(0, 0, sort, 39), 0);
        }
        Bench.due("below 0", x.lane(0, 0, 1, -1), -16);
        Bench.due("it stays", x.measure(0, 0, 0), 7);
        Bench.due("FAULT", x.count(7), 6);
        Bench.due("0 items", x.lane(0, 0, 3, 0), 1);
        Bench.due("items", x.measure(0, 0, 1), 0);
        Bench.due("nothing", x.lane(0, 0, 0, 999), 1);
        Bench.due("nothing", x.lane(0, 0, 0, -999), 1);
        Bench.due("SORT", x.measure(0, 0, 0), 0);
    }

    private static void casts() {
        GaugeHouse x = Bench.with(1).house;
        Bench.due("put into nothing", x.put(0, 0, 1, 99, 0), -11);
        Bench.due("get of nothing", x.get(0, 0, 1, 99), NONE);
        Bench.due("FAULT", x.count(7), 1);
        for (int is = 1; is <= 7; is++) {
            x.lane(0, 0, is, 2);
            for (int to = 1; to <= 5; to++) {
                Bench.due("put of " + is + " as " + to, x.put(0, 0, to, 1, 0), is == to ? 1 : -12);
                Bench.due("put of " + is + " as " + to, x.put(0, 0, to, 2, 0), is == to ? -13 : -12);
                Bench.due("put of " + is + " as " + to, x.put(0, 0, to, -1, 0), is == to ? -13 : -12);
                x.get(0, 0, to, 2);
                Bench.due("FAULT of get", x.count(7), is == to ? 3 : 2);
                Bench.due("get of " + is + " as " + to, x.get(0, 0, to, 1), is == to ? 0 : NONE);
            }
            Bench.due("mark of " + is, x.mark(0, 0, 1, -1), is >= 6 ? 1 : -12);
            Bench.due("mark of " + is, x.mark(0, 0, 2, -1), is >= 6 ? -13 : -12);
            Bench.due("marked of " + is, x.marked(0, 0, 2), NONE);
            Bench.due("FAULT of marked", x.count(7), is >= 6 ? 3 : 2);
        }
        Bench.due("mark of nothing", x.mark(0, 1, 0, -1), -11);
    }

    private static void items() {
        GaugeHouse x = Bench.with(1).house;
        long v = 0x1234567890abcdefL;
        long[] due = {(byte) v, (short) v, (int) v};
        for (int sort = 1; sort <= 3; sort++) {
            x.lane(0, sort - 1, sort, 3);
            x.put(0, sort - 1, sort, 2, v);
            Bench.due("cast to " + sort, x.get(0, sort - 1, sort, 2), due[sort - 1]);
            Bench.due("the others stay", x.get(0, sort - 1, sort, 1), 0);
        }
    }

    private static void floats() {
        GaugeHouse x = Bench.with(1).house;
        x.lane(0, 0, 4, 1);
        x.lane(0, 1, 5, 1);
        float[] f = {1.5f, -1.5f, -0.0f, Float.POSITIVE_INFINITY, Float.NaN, Float.MIN_VALUE};
        for (float v : f) {
            x.put(0, 0, 4, 0, Float.floatToRawIntBits(v));
            Bench.due("float " + v, x.get(0, 0, 4, 0), Float.floatToIntBits(v));
        }
        x.put(0, 0, 4, 0, 0x12345678ff812345L);
        Bench.due("not a number", x.get(0, 0, 4, 0), 0x7fc00000);
        double[] d = {1.5, -1.5, Double.NEGATIVE_INFINITY, Double.NaN, Double.MIN_VALUE};
        for (double v : d) {
            x.put(0, 1, 5, 0, Double.doubleToRawLongBits(v));
            Bench.due("double " + v, x.get(0, 1, 5, 0), Double.doubleToLongBits(v));
        }
        x.put(0, 1, 5, 0, 0xfff0000000000001L);
        Bench.due("not a number", x.get(0, 1, 5, 0), 0x7ff8000000000000L);
        Bench.due("-0.0", x.put(0, 1, 5, 0, NONE), 1);
        Bench.due("-0.0", x.get(0, 1, 5, 0), NONE);
    }

    private static void marks() {
        Bench b = Bench.with(1);
        GaugeHouse x = b.house;
        x.lane(0, 1, 6, 3);
        x.lane(0, 2, 7, 3);
        b.tell(0, "INIT:CONT ON");
        x.tick(60);
        Bench.due("one that is not kept", x.mark(0, 1, 0, 19), -1);
        Bench.due("the eldest", x.mark(0, 1, 0, 20), 1);
        Bench.due("its TIME", x.marked(0, 1, 0), 21);
        Bench.due("one to come", x.mark(0, 1, 0, 60), -1);
        Bench.due("the latest", x.mark(0, 1, 1, 59), 1);
        Bench.due("its TIME", x.marked(0, 1, 1), 60);
        Bench.due("nothing there", x.marked(0, 1, 2), NONE);
        Bench.due("FAULT", x.count(7), 1);
        Bench.due("not LATE", x.mark(0, 2, 0, 59), -15);
        Bench.due("nothing came", x.marked(0, 2, 0), NONE);
        x.tick(40);
        Bench.due("at 99", x.mark(0, 2, 0, 98), -15);
        Bench.due("at 100", x.mark(0, 2, 0, 99), 1);
        Bench.due("its TIME", x.marked(0, 2, 0), 100);
        Bench.due("it stays", x.marked(0, 1, 0), 21);
        Bench.due("nothing", x.mark(0, 2, 0, -1), 1);
        Bench.due("nothing", x.marked(0, 2, 0), NONE);
    }

    private static void copies() {
        GaugeHouse x = Bench.with(1, 0, 2).house;
        Bench.due("of nothing", x.copy(0, 0, 0, 2, 0, 0, 0), -11);
        x.lane(0, 0, 3, 5);
        Bench.due("into nothing", x.copy(0, 0, 0, 2, 0, 0, 0), -11);
        Bench.due("from nothing", x.copy(2, 0, 0, 0, 0, 0, 0), -11);
        for (int a = 1; a <= 7; a++) {
            for (int c = 1; c <= 7; c++) {
                x.lane(0, 1, a, 2);
                x.lane(2, 1, c, 2);
                boolean alike = a == c || a >= 6 && c >= 6;
                Bench.due(a + " into " + c, x.copy(0, 1, 0, 2, 1, 0, 2), alike ? 1 : -15);
                Bench.due(a + " into " + c + " beyond", x.copy(0, 1, -1, 2, 1, 0, 2), alike ? -13 : -15);
            }
        }
        for (int k = 0; k < 5; k++) x.put(0, 0, 3, k, k + 1);
        int[][] beyond = {{-1, 0, 1}, {0, -1, 1}, {0, 0, -1}, {5, 0, 1}, {0, 5, 1}, {3, 0, 3}, {0, 3, 3}, {6, 0, 0}, {Integer.MAX_VALUE, 0, 1}, {1, 1, Integer.MAX_VALUE}};
        for (int[] p : beyond) Bench.due("beyond", x.copy(0, 0, p[0], 0, 0, p[1], p[2]), -13);
        Bench.due("none at the ends", x.copy(0, 0, 5, 0, 0, 5, 0), 1);
        Bench.due("up", x.copy(0, 0, 0, 0, 0, 1, 4), 1);
        row(x, 1, 1, 2, 3, 4);
        Bench.due("down", x.copy(0, 0, 1, 0, 0, 0, 4), 1);
        row(x, 1, 2, 3, 4, 4);
        x.lane(2, 0, 3, 3);
        Bench.due("into another", x.copy(0, 0, 2, 2, 0, 1, 2), 1);
        Bench.due("item", x.get(2, 0, 3, 0), 0);
        Bench.due("item", x.get(2, 0, 3, 1), 3);
        Bench.due("item", x.get(2, 0, 3, 2), 4);
    }

    private static void row(GaugeHouse x, int... due) {
        for (int k = 0; k < due.length; k++) Bench.due("item " + k, x.get(0, 0, 3, k), due[k]);
    }

    private static void lateCopies() {
        Bench b = Bench.with(1, 1);
        GaugeHouse x = b.house;
        x.lane(0, 0, 6, 4);
        x.lane(1, 0, 7, 4);
        b.tell(0, "INIT:CONT ON");
        x.tick(64);
        x.tick(56);
        x.mark(0, 0, 0, 110);
        x.mark(0, 0, 2, 90);
        x.mark(0, 0, 3, 111);
        Bench.due("one that is not LATE", x.copy(0, 0, 0, 1, 0, 0, 4), -15);
        Bench.due("those before have gone", x.marked(1, 0, 0), 111);
        Bench.due("nothing goes, too", x.marked(1, 0, 1), NONE);
        Bench.due("those behind have not", x.marked(1, 0, 3), NONE);
        Bench.due("a LATE one", x.copy(0, 0, 3, 1, 0, 2, 1), 1);
        Bench.due("came", x.marked(1, 0, 2), 112);
        Bench.due("7 into 6", x.copy(1, 0, 0, 0, 0, 0, 4), 1);
        Bench.due("came", x.marked(0, 0, 2), 112);
        Bench.due("nothing came", x.marked(0, 0, 3), NONE);
    }

    private static void measures() {
        GaugeHouse x = Bench.with(1).house;
        for (int what = 2; what <= 5; what++) {
            Bench.due("measure " + what + " of nothing", x.measure(0, 0, what), -11);
            x.lane(0, 1, 4, 1);
            Bench.due("measure " + what + " of floats", x.measure(0, 1, what), -12);
        }
        x.lane(0, 0, 5, 6);
        double[] d = {Double.NaN, 0.0, -0.0, Double.NaN, -0.0, 0.0};
        for (int k = 0; k < 6; k++) x.put(0, 0, 5, k, Double.doubleToLongBits(d[k]));
        Bench.due("the least", x.measure(0, 0, 2), 1);
        Bench.due("the greatest", x.measure(0, 0, 3), 1);
        Bench.due("not a number", x.measure(0, 0, 4), 2);
        double[] e = {1.5, -2.5, 1e300, Double.NEGATIVE_INFINITY, -2.5, 1e300};
        for (int k = 0; k < 6; k++) x.put(0, 0, 5, k, Double.doubleToLongBits(e[k]));
        Bench.due("the least", x.measure(0, 0, 2), 3);
        Bench.due("the greatest", x.measure(0, 0, 3), 2);
        x.put(0, 0, 5, 3, Double.doubleToLongBits(-2.0));
        Bench.due("the first least", x.measure(0, 0, 2), 1);
        Bench.due("the mean of doubles", x.measure(0, 0, 5), -12);
        x.lane(0, 0, 5, 0);
        Bench.due("none", x.measure(0, 0, 2), -1);
        Bench.due("none", x.measure(0, 0, 4), 0);
        x.lane(0, 0, 3, 3);
        int[] m = {Integer.MAX_VALUE, Integer.MAX_VALUE, 2};
        for (int k = 0; k < 3; k++) x.put(0, 0, 3, k, m[k]);
        Bench.due("the mean", x.measure(0, 0, 5), (int) ((2L * Integer.MAX_VALUE + 2) / 3));
        int[] n = {-1, -1, -3};
        for (int k = 0; k < 3; k++) x.put(0, 0, 3, k, n[k]);
        Bench.due("the mean, cut", x.measure(0, 0, 5), -1);
        Bench.due("the least of ints", x.measure(0, 0, 2), -12);
        x.lane(0, 0, 3, 0);
        Bench.due("no items", x.measure(0, 0, 5), -14);
        Bench.due("FAULT", x.count(7), 4);
    }

    private static void feeding() {
        int[] a = {-129500, 300000000, 40000500, 123456789, 0};
        for (int sort = 1; sort <= 7; sort++) {
            Bench b = Bench.with(1);
            b.house.lane(0, 0, sort, 6);
            b.house.wire(0, 0, 0);
            b.tell(0, "RANG 6;:TRAC:FEED ON");
            for (int k = 0; k < 7; k++) {
                if (k < 5) b.house.signal(0, 0, a[k], 0, 1);
                else b.house.signal(0, 3, 0, 0, 1);
                b.tell(0, "INIT");
                b.house.tick(1);
            }
            Bench.due("items that FEED put", b.house.about(0, 11), sort < 6 ? 6 : 0);
            for (int k = 0; k < 6 && sort < 6; k++) {
                double x = k < 5 ? Math.rint(a[k] / 1000.0 / 100.0) * 100.0 : Double.NaN;
                long due = sort == 1 ? (byte) x : sort == 2 ? (short) x : sort == 3 ? (int) x
                    : sort == 4 ? Float.floatToIntBits((float) x) : Double.doubleToLongBits(x);
                Bench.due("item " + k + " of " + sort, b.house.get(0, 0, sort, k), due);
            }
        }
        Bench b = Bench.with(1);
        b.house.wire(0, 0, 0);
        b.house.signal(0, 0, -2000, 0, 1);
        long[] over = {(byte) -9.9E37, (short) -9.9E37, (int) -9.9E37, Float.floatToIntBits((float) -9.9E37), Double.doubleToLongBits(-9.9E37)};
        long[] minus = {0, 0, 0, 0x80000000, NONE};
        for (int sort = 1; sort <= 5; sort++) {
            b.house.signal(0, 0, -2000, 0, 1);
            b.house.lane(0, 0, sort, 2);
            b.tell(0, "RANG 0;:TRAC:FEED ON;:INIT");
            b.house.tick(1);
            Bench.due("OVER", b.house.get(0, 0, sort, 0), over[sort - 1]);
            b.house.signal(0, 0, -1, 0, 1);
            b.tell(0, "RANG 4;:INIT");
            b.house.tick(1);
            Bench.due("-0.0", b.house.get(0, 0, sort, 1), minus[sort - 1]);
        }
    }

    private static void feedPlaces() {
        Bench b = Bench.with(1);
        b.house.wire(0, 0, 0);
        b.house.signal(0, 2, 0, 100, 1000);
        b.tell(0, "RANG 3;:TRAC:FEED ON;:INIT:CONT ON");
        b.house.tick(1);
        Bench.due("no LANE", b.house.about(0, 11), 0);
        b.house.lane(0, 0, 5, 3);
        b.house.tick(1);
        Bench.due("from item 0 on", b.house.about(0, 11), 1);
        b.tell(0, "TRAC:FEED OFF");
        b.house.tick(1);
        Bench.due("OFF", b.house.about(0, 11), 1);
        b.tell(0, "*SAV 0;:TRAC:FEED ON;*SAV 1");
        Bench.due("anew", b.house.about(0, 11), 0);
        b.house.tick(2);
        Bench.due("on", b.house.about(0, 11), 2);
        b.tell(0, "*RCL 0;*RCL 1");
        Bench.due("*RCL", b.house.about(0, 11), 2);
        b.house.tick(1);
        Bench.due("goes on where it was", b.house.about(0, 11), 3);
        b.house.tick(2);
        Bench.due("no such item", b.house.about(0, 11), 3);
        Bench.due("the last", b.house.get(0, 0, 5, 2), Double.doubleToLongBits(Math.rint(0.6 / 0.1) * 0.1));
        b.tell(0, "TRAC:FEED ON");
        b.house.tick(1);
        Bench.due("ON once more", b.house.get(0, 0, 5, 0), Double.doubleToLongBits(Math.rint(0.9 / 0.1) * 0.1));
    }

    private static void blocks() {
        Bench b = Bench.with(1);
        Bench.due("nothing", b.errorsOf(0, "TRAC:DATA #12ab"), "-221");
        b.house.lane(0, 0, 2, 2);
        Bench.due("shorts", b.errorsOf(0, "TRAC:DATA #12ab"), "-221");
        b.house.lane(0, 0, 1, 2);
        Bench.due("too many", b.errorsOf(0, "TRAC:DATA #13abc"), "-221");
        Bench.due("too few", b.errorsOf(0, "TRAC:DATA #11a"), "-221");
        Bench.due("just as many", b.errorsOf(0, "TRAC:DATA #12\u00ffb"), "");
        Bench.due("item", b.house.get(0, 0, 1, 0), -1);
        Bench.due("item", b.house.get(0, 0, 1, 1), 'b');
        Bench.due("up to the END", b.errorsOf(0, "TRAC:DATA #0;\n"), "");
        Bench.due("item", b.house.get(0, 0, 1, 0), ';');
        Bench.due("item", b.house.get(0, 0, 1, 1), 10);
        b.tell(0, "TRAC:FEED ON;:INIT");
        b.house.tick(1);
        b.tell(0, "TRAC:DATA #12xy");
        Bench.due("FEED's place stays", b.house.about(0, 11), 1);
        Bench.due("item", b.house.get(0, 0, 1, 0), 'x');
        b.house.lane(0, 0, 1, 0);
        Bench.due("no bytes", b.errorsOf(0, "TRAC:DATA #10"), "");
    }
}
