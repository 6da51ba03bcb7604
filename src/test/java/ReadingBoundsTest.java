/** The boundary cases of SIGNALS and READINGS in part 5 and of promises 14, 15, 20, 33. */
public final class ReadingBoundsTest {
    private static final int BAD = GaugeHouse.BAD;
    private static final long NAN = 0x7ff8000000000000L;
    private static final int BILLION = 1000000000;

    public static void main(String[] args) {
        refusedSignals();
        refusedWires();
        steps();
        ramps();
        longRamps();
        quotients();
        notANumber();
        autoRanges();
        over();
        negativeZero();
        halves();
        offsets();
        smallRests();
        limits();
        toldThousandths();
        fortyReadings();
        noReadings();
        halvesOfChannels();
        shares();
        Bench.end();
    }

    private static long bits(double x) {
        return Double.doubleToLongBits(x);
    }

    private static long read(Bench b) {
        b.tell(0, "INIT");
        b.house.tick(1);
        return b.house.reading(0, 0);
    }

    /** "SIGNALS 0 .. 5 have a SHAPE and a, b (-10^9 to 10^9), p (1 to 1000)" */
    private static void refusedSignals() {
        GaugeHouse x = new GaugeHouse();
        int[][] good = {{0, 0, 0, 0, 1}, {5, 0, 0, 0, 1}, {0, 4, 0, 0, 1}, {0, 0, BILLION, 0, 1}, {0, 0, -BILLION, 0, 1}, {0, 0, 0, BILLION, 1}, {0, 0, 0, -BILLION, 1}, {0, 0, 0, 0, 1000},
            {5, 4, -BILLION, BILLION, 1000}};
        for (int[] s : good) Bench.due("signal", x.signal(s[0], s[1], s[2], s[3], s[4]), 1);
        int[][] bad = {{-1, 0, 0, 0, 1}, {6, 0, 0, 0, 1}, {0, -1, 0, 0, 1}, {0, 5, 0, 0, 1}, {0, 0, BILLION + 1, 0, 1}, {0, 0, -BILLION - 1, 0, 1}, {0, 0, 0, BILLION + 1, 1},
            {0, 0, 0, -BILLION - 1, 1}, {0, 0, 0, 0, 0}, {0, 0, 0, 0, -1}, {0, 0, 0, 0, 1001}, {0, 3, BILLION + 1, 0, 1}, {0, 3, 0, 0, 1001}, {0, 0, 0, BILLION + 1, 1}};
        for (int[] s : bad) Bench.due("signal", x.signal(s[0], s[1], s[2], s[3], s[4]), BAD);
        int[] far = {Integer.MIN_VALUE, Integer.MAX_VALUE};
        for (int v : far) {
            int[][] all = {{v, 0, 0, 0, 1}, {0, v, 0, 0, 1}, {0, 0, v, 0, 1}, {0, 0, 0, v, 1}, {0, 0, 0, 0, v}};
            for (int[] s : all) Bench.due("signal", x.signal(s[0], s[1], s[2], s[3], s[4]), BAD);
        }
        Bench b = Bench.metering(500);
        b.house.signal(0, 0, 700, 0, 1001);
        b.house.signal(0, 5, 700, 0, 1);
        Bench.due("what is refused changes nothing", read(b), bits(Math.rint(0.5 / 0.0001) * 0.0001));
    }

    /** "a METER's input (channel 0 alone), a SCANNER's channel (1 .. 8 alone)"; "-1: none"; "what it was joined to" */
    private static void refusedWires() {
        GaugeHouse x = Bench.with(0, 1, 2).house;
        Bench.due("at first", x.wire(1, 0, 0), -1);
        Bench.due("the last", x.wire(1, 0, 5), 0);
        Bench.due("none", x.wire(1, 0, -1), 5);
        Bench.due("none", x.wire(1, 0, 3), -1);
        int[][] bad = {{0, 0, 0}, {0, 1, 0}, {-1, 0, 0}, {3, 0, 0}, {1, 1, 0}, {1, -1, 0}, {1, 8, 0}, {1, 0, 6}, {1, 0, -2}, {2, 0, 0}, {2, 9, 0}, {2, -1, 0}, {2, 1, 6}, {2, 8, -2},
            {Integer.MIN_VALUE, 0, 0}, {Integer.MAX_VALUE, 0, 0}, {1, Integer.MAX_VALUE, 0}, {2, Integer.MIN_VALUE, 0}, {1, 0, Integer.MAX_VALUE}, {2, 1, Integer.MIN_VALUE}};
        // twice, as BAD is what a wire to none answers, too
        for (int k = 0; k < 2; k++) {
            for (int[] w : bad) Bench.due("wire", x.wire(w[0], w[1], w[2]), BAD);
        }
        Bench.due("it stays", x.wire(1, 0, 3), 3);
        for (int c = 1; c <= 8; c++) Bench.due("channel " + c, x.wire(2, c, c % 6), -1);
        for (int c = 1; c <= 8; c++) Bench.due("channel " + c, x.wire(2, c, -1), c % 6);
    }

    /** "1 that, if t / p (cut) is even, else b / 1000.0" */
    private static void steps() {
        int[] periods = {1, 2, 3, 1000};
        for (int p : periods) {
            Bench b = Bench.with(1);
            b.house.wire(0, 0, 0);
            b.house.signal(0, 1, 500, -500, p);
            for (int t = 1; t <= 8; t++) Bench.due("period " + p + " at " + t, read(b), bits(t / p % 2 == 0 ? 0.5 : -0.5));
        }
        Bench b = Bench.with(1);
        b.house.wire(0, 0, 0);
        b.house.signal(0, 1, 500, -500, 1000);
        for (int k = 0; k < 15; k++) b.house.tick(64);
        b.house.tick(38);
        Bench.due("at 999", read(b), bits(0.5));
        Bench.due("at 1000", read(b), bits(-0.5));
    }

    /** "2 (a + b (t modulo p)) / 1000.0" */
    private static void ramps() {
        int[] periods = {1, 2, 5};
        for (int p : periods) {
            Bench b = Bench.with(1);
            b.house.wire(0, 0, 0);
            b.house.signal(0, 2, 100, 50, p);
            for (int t = 1; t <= 10; t++) Bench.due("period " + p + " at " + t, read(b), bits(Math.rint((100 + 50 * (t % p)) / 1000.0 / 0.0001) * 0.0001));
        }
        Bench b = Bench.with(1);
        b.house.wire(0, 0, 0);
        b.house.signal(0, 2, 0, 1000, 1000);
        b.tell(0, "RANG 3");
        for (int k = 0; k < 15; k++) b.house.tick(64);
        b.house.tick(38);
        Bench.due("at 999", read(b), bits(Math.rint(999.0 / 0.1) * 0.1));
        Bench.due("at 1000 it wraps", read(b), bits(0.0));
    }

    /** "(a + .. as a long)" */
    private static void longRamps() {
        Bench b = Bench.with(1);
        b.house.wire(0, 0, 0);
        b.tell(0, "RANG 6");
        b.house.signal(0, 2, BILLION, BILLION, 4);
        b.house.tick(2);
        Bench.due("at 3: 4 billions", read(b), bits(9.9E37));
        b.house.signal(0, 2, -BILLION, BILLION, 3);
        Bench.due("at 4: none", read(b), bits(0.0));
        Bench.due("at 5: a billion", read(b), bits(1000000.0));
        b.house.signal(0, 2, BILLION, -BILLION, 4);
        Bench.due("at 6: minus a billion", read(b), bits(-1000000.0));
        b.house.signal(0, 2, -BILLION, -BILLION, 5);
        Bench.due("at 7: minus 3 billions", read(b), bits(-9.9E37));
    }

    /** "4 a / 1000.0 by t modulo p" */
    private static void quotients() {
        Bench b = Bench.with(1);
        b.house.wire(0, 0, 0);
        b.house.signal(0, 4, 900, 0, 3);
        double[] due = {0.9, 0.45, 9.9E37, 0.9, 0.45, 9.9E37};
        for (int k = 0; k < 6; k++) Bench.due("at " + (k + 1), read(b), bits(due[k] > 1 ? due[k] : Math.rint(due[k] / 0.0001) * 0.0001));
        int[] a = {1, -1, BILLION, -BILLION, 0};
        long[] by0 = {bits(9.9E37), bits(-9.9E37), bits(9.9E37), bits(-9.9E37), NAN};
        for (int k = 0; k < 5; k++) {
            b.house.signal(0, 4, a[k], 0, 1);
            Bench.due(a[k] + " by 0", read(b), by0[k]);
            Bench.due("OVER", b.house.register(0, 1, 0), a[k] == 0 ? 0 : 1);
            b.tell(0, "RANG 0;:RANG:AUTO 1");
            Bench.due(a[k] + " by 0 with AUTO", read(b), by0[k]);
            Bench.due("RANGE", b.house.about(0, 8), a[k] == 0 ? 0 : 6);
            b.tell(0, "RANG 0");
        }
    }

    /** "3 none: not a number (so at first)"; "Not a number stays so." */
    private static void notANumber() {
        Bench b = Bench.with(1, 2);
        b.house.wire(0, 0, 5);
        Bench.due("at first", read(b), NAN);
        b.house.signal(5, 3, 500, 500, 5);
        Bench.due("shape 3", read(b), NAN);
        b.tell(0, "CALC:NULL 1000");
        Bench.due("less NULL", read(b), NAN);
        Bench.due("it is told", b.ask(0, "FETC?"), "9.91E37\n");
        b.house.wire(0, 0, -1);
        b.house.signal(5, 0, 500, 0, 1);
        Bench.due("joined to none", read(b), NAN);
        b.tell(0, "RANG 4;:RANG:AUTO 1");
        Bench.due("with AUTO", read(b), NAN);
        Bench.due("RANGE as it was", b.house.about(0, 8), 4);
        b.tell(1, "INIT");
        b.house.tick(1);
        Bench.due("no channel", b.house.reading(1, 0), NAN);
    }

    /** "the least r (0 to 6) with |x| at most 10^r (6 without ..)" */
    private static void autoRanges() {
        Bench b = Bench.metering(0);
        b.tell(0, "RANG:AUTO 1");
        int top = 1000;
        for (int r = 0; r <= 6; r++) {
            int[] a = {top, -top, top - 1, 1 - top};
            for (int v : a) {
                b.house.signal(0, 0, v, 0, 1);
                read(b);
                Bench.due("RANGE of " + v, b.house.about(0, 8), r);
                Bench.due("not OVER", b.house.register(0, 1, 0), 0);
            }
            for (int sign = -1; sign <= 1 && r < 6; sign += 2) {
                b.house.signal(0, 0, sign * (top + 1), 0, 1);
                read(b);
                Bench.due("RANGE of " + sign * (top + 1), b.house.about(0, 8), r + 1);
            }
            top = r < 6 ? top * 10 : top;
        }
        b.house.signal(0, 0, 0, 0, 1);
        read(b);
        Bench.due("RANGE of 0", b.house.about(0, 8), 0);
        b.house.signal(0, 2, BILLION, 1, 64);
        read(b);
        Bench.due("RANGE beyond the greatest", b.house.about(0, 8), 6);
        Bench.due("OVER", b.house.register(0, 1, 0), 1);
    }

    /** "If |x| is above 10^r: OVER: 9.9E37 with its sign." */
    private static void over() {
        int top = 1000;
        for (int r = 0; r <= 6; r++) {
            Bench b = Bench.metering(0);
            b.tell(0, "RANG " + r);
            for (int sign = -1; sign <= 1; sign += 2) {
                b.house.signal(0, 0, sign * top, 0, 1);
                Bench.due("at the edge of RANGE " + r, read(b), bits(sign * Math.rint(top / 1000.0 / (top / 1000.0 / 10000.0)) * (top / 1000.0 / 10000.0)));
                Bench.due("not OVER", b.house.register(0, 1, 0), 0);
                if (r < 6) b.house.signal(0, 0, sign * (top + 1), 0, 1);
                else b.house.signal(0, 2, sign * top, sign, 1000);
                Bench.due("beyond RANGE " + r, read(b), bits(sign * 9.9E37));
                Bench.due("OVER", b.house.register(0, 1, 0), 1);
                Bench.due("RANGE stays", b.house.about(0, 8), r);
            }
            top = r < 6 ? top * 10 : top;
        }
    }

    /** "(Bits of -0.0 are NONE, too.)"; "0 as 0.000" */
    private static void negativeZero() {
        Bench b = Bench.metering(-49);
        b.tell(0, "RANG 3");
        Bench.due("-0.0", read(b), GaugeHouse.NONE);
        Bench.due("it is told", b.ask(0, "FETC?"), "0.000\n");
        b.house.signal(0, 0, 49, 0, 1);
        Bench.due("0.0", read(b), 0);
        b.house.signal(0, 0, -51, 0, 1);
        Bench.due("just beyond", read(b), bits(-0.1));
        Bench.due("it is told", b.ask(0, "FETC?"), "-0.100\n");
        b.house.signal(0, 0, 0, 0, 1);
        Bench.due("0", read(b), 0);
    }

    /** "x becomes rint(x / RES) RES" */
    private static void halves() {
        Bench b = Bench.metering(0);
        b.tell(0, "RANG 4");
        int[] a = {499, 500, 501, 1499, 1500, 1501, 2499, 2500, 2501, -500, -1500, -2500};
        double[] due = {0, 0, 1, 1, 2, 2, 2, 2, 3, -0.0, -2, -2};
        for (int k = 0; k < a.length; k++) {
            b.house.signal(0, 0, a[k], 0, 1);
            Bench.due("READING of " + a[k], read(b), bits(due[k]));
        }
    }

    /** ":CALCulate:NULL real -1000000 1000000 0"; "less NULL / 1000.0 (also of OVER ones, in doubles)" */
    private static void offsets() {
        Bench b = Bench.metering(1000);
        String[] told = {"1000", "-1000", "0.001", "-0.001", "0"};
        for (String s : told) {
            b.tell(0, "CALC:NULL " + s);
            Bench.due("less " + s, read(b), bits(1.0 - Double.parseDouble(s)));
        }
        b.house.signal(0, 0, 1001, 0, 1);
        b.tell(0, "CALC:NULL MAX");
        Bench.due("of an OVER one", read(b), bits(9.9E37 - 1000.0));
        Bench.due("OVER", b.house.register(0, 1, 0), 1);
        b.house.signal(0, 0, 1000, 0, 1);
        b.tell(0, "CALC:NULL MIN");
        Bench.due("beyond the RANGE, but not OVER", read(b), bits(1001.0));
        Bench.due("not OVER", b.house.register(0, 1, 0), 0);
    }

    /** What NULL leaves of a READING of the same size may be far below a thousandth. */
    private static void smallRests() {
        int small = 0;
        for (int r = 0; r <= 3; r++) {
            double top = Math.pow(10, r);
            double res = top / 10000.0;
            Bench b = Bench.with(1);
            for (int k = 0; k < 40; k++) {
                if (k % 10 == 0) {
                    b = Bench.with(1);
                    b.house.wire(0, 0, 0);
                    b.house.lane(0, 0, 4, 10);
                    b.tell(0, "RANG " + r + ";:TRAC:FEED ON");
                }
                int a = (int) (top * (7 + 24 * k));
                b.house.signal(0, 0, a, 0, 1);
                b.tell(0, "CALC:NULL " + a + "M");
                double due = Math.rint(a / 1000.0 / res) * res - a / 1000.0;
                Bench.due("READING of " + a + " less itself", read(b), bits(due));
                Bench.due("as a float", b.house.get(0, 0, 4, k % 10), Float.floatToIntBits((float) due));
                Bench.due("it is told", b.ask(0, "FETC?"), Math.abs(due) < 0.0005 ? "0.000\n" : "?");
                if (due != 0 && Math.abs(due) < 1e-12) small++;
            }
        }
        Bench.due("there were such", small > 5 ? 1 : 0, 1);
    }

    /** "x at least LOWER / 1000.0 and at most UPPER / 1000.0" */
    private static void limits() {
        Bench b = Bench.metering(0);
        b.tell(0, "RANG 1;:CALC:LIM:LOW -2;UPP 3");
        int[] a = {-2001, -2000, -1999, 2999, 3000, 3001};
        int[] fails = {1, 0, 0, 0, 0, 1};
        for (int on = 0; on < 2; on++) {
            b.tell(0, "CALC:LIM:STAT " + on);
            for (int k = 0; k < a.length; k++) {
                b.house.signal(0, 0, a[k], 0, 1);
                read(b);
                Bench.due("FAIL of " + a[k], b.ask(0, "CALC:LIM:FAIL?"), fails[k] * on + "\n");
            }
        }
        b.tell(0, "CALC:LIM:LOW 3;UPP 3");
        int[] c = {2999, 3000, 3001};
        for (int v : c) {
            b.house.signal(0, 0, v, 0, 1);
            read(b);
            Bench.due("FAIL of " + v, b.ask(0, "CALC:LIM:FAIL?"), v == 3000 ? "0\n" : "1\n");
        }
        b.tell(0, "CALC:LIM:LOW 3.001");
        b.house.signal(0, 0, 3000, 0, 1);
        read(b);
        Bench.due("nothing is within", b.ask(0, "CALC:LIM:FAIL?"), "1\n");
        b.tell(0, "CALC:LIM:STAT 0");
        Bench.due("of the latest READING", b.ask(0, "CALC:LIM:FAIL?"), "1\n");
        Bench d = Bench.with(1);
        d.tell(0, "CALC:LIM:STAT 1");
        Bench.due("none", d.ask(0, "CALC:LIM:FAIL?"), "0\n");
    }

    /** "rint(x 1000) as a whole number of thousandths" */
    private static void toldThousandths() {
        int[] a = {1, 3, 5, -1, -3, 2, 1999};
        String[] due = {"0.000", "0.002", "0.002", "0.000", "-0.002", "0.001", "1.000"};
        for (int k = 0; k < a.length; k++) {
            Bench c = Bench.with(1);
            c.house.wire(0, 0, 0);
            c.house.signal(0, 4, a[k], 0, 1000);
            c.house.tick(1);
            c.tell(0, "READ?");
            c.house.tick(1);
            Bench.due("half of " + a[k], c.take(0), due[k] + "\n");
        }
        int[] v = {1000000000, -1000000000, 999900000, 1000, -1000, 100};
        String[] told = {"1000000.000", "-1000000.000", "999900.000", "0.000", "0.000", "0.000"};
        Bench b = Bench.metering(0);
        b.tell(0, "RANG 6");
        for (int k = 0; k < v.length; k++) {
            b.house.signal(0, 0, v[k], 0, 1);
            read(b);
            Bench.due("FETCh of " + v[k], b.ask(0, "FETC?"), told[k] + "\n");
        }
    }

    /** "The latest 40 are kept."; "READING k, 0 the latest, of those that are kept" */
    private static void fortyReadings() {
        int[] counts = {1, 39, 40, 41, 64};
        for (int n : counts) {
            Bench b = Bench.with(1);
            b.house.wire(0, 0, 0);
            b.house.signal(0, 2, 0, 1, 1000);
            b.tell(0, "INIT:CONT 1");
            b.house.tick(n);
            int kept = Math.min(40, n);
            Bench.due("READINGS ever", b.house.about(0, 7), n);
            Bench.due("the latest of " + n, b.house.reading(0, 0), bits(Math.rint(n / 1000.0 / 0.0001) * 0.0001));
            Bench.due("the eldest of " + n, b.house.reading(0, kept - 1), bits(Math.rint((n - kept + 1) / 1000.0 / 0.0001) * 0.0001));
            Bench.due("beyond it", b.house.reading(0, kept), GaugeHouse.NONE);
        }
        Bench b = Bench.with(1);
        b.house.wire(0, 0, 0);
        b.house.signal(0, 2, 0, 1, 1000);
        b.tell(0, "INIT:CONT 1");
        b.house.tick(64);
        b.house.tick(64);
        for (int k = 0; k < 40; k++) Bench.due("reading " + k + " of 128", b.house.reading(0, k), bits(Math.rint((128 - k) / 1000.0 / 0.0001) * 0.0001));
        Bench.due("no more", b.house.reading(0, 40), GaugeHouse.NONE);
    }

    private static void noReadings() {
        GaugeHouse x = Bench.with(0, 1).house;
        int[][] none = {{0, 0}, {1, 0}, {2, 0}, {-1, 0}, {1, -1}, {1, 40}, {Integer.MIN_VALUE, 0}, {Integer.MAX_VALUE, 0}, {1, Integer.MIN_VALUE}, {1, Integer.MAX_VALUE}};
        for (int[] r : none) Bench.due("reading(" + r[0] + ", " + r[1] + ")", x.reading(r[0], r[1]), GaugeHouse.NONE);
    }

    /** "each channel (1 to 8 ..) in order is closed, and another one of its half (1 to 4, 5 to 8) opened" */
    private static void halvesOfChannels() {
        for (int first = 1; first <= 8; first++) {
            for (int second = 1; second <= 8; second++) {
                Bench b = Bench.with(2);
                b.tell(0, "ROUT:CLOS (@" + first + "," + second + ")");
                boolean half = first <= 4 == second <= 4;
                Bench.due(first + ", then " + second, b.house.about(0, 9), half ? 1 << second : 1 << first | 1 << second);
                Bench.due("how often", b.house.about(0, 10), 2);
            }
        }
        Bench b = Bench.with(2);
        for (int c = 1; c <= 8; c++) {
            b.house.wire(0, c, c <= 6 ? c - 1 : -1);
            b.house.signal(Math.min(c - 1, 5), 0, 100 * Math.min(c, 6), 0, 1);
        }
        for (int c = 1; c <= 6; c++) {
            b.tell(0, "ROUT:OPEN (@1:8);CLOS (@" + c + ")");
            Bench.due("channel " + c, read(b), bits(Math.rint(c / 10.0 / 0.0001) * 0.0001));
        }
        b.tell(0, "ROUT:CLOS (@1,6);OPEN (@1)");
        Bench.due("none but those of the LIST is opened", b.house.about(0, 9), 1 << 6);
        b.tell(0, "ROUT:CLOS (@4,5)");
        Bench.due("the least channel", read(b), bits(Math.rint(0.4 / 0.0001) * 0.0001));
    }

    private static String shareOf(Bench b, int i) {
        try {
            return String.valueOf(b.house.share(i));
        } catch (IllegalArgumentException e) {
            return "IllegalArgumentException";
        } catch (ArithmeticException e) {
            return "ArithmeticException";
        }
    }

    /** "READINGS of an INSTRUMENT by those of them that FAILED, cut"; "there is no such one, or no METER"; "none FAILED" */
    private static void shares() {
        Bench b = Bench.with(0, 1, 2);
        int[] no = {0, 3, 4, -1, Integer.MIN_VALUE, Integer.MAX_VALUE};
        for (int i : no) Bench.due("share(" + i + ")", shareOf(b, i), "IllegalArgumentException");
        Bench.due("of no READINGS", shareOf(b, 1), "ArithmeticException");
        Bench.due("of no READINGS", shareOf(b, 2), "ArithmeticException");
        b.tell(1, "INIT:CONT ON");
        b.house.tick(2);
        Bench.due("none FAILED", shareOf(b, 1), "ArithmeticException");
        b.tell(1, "CALC:LIM:STAT ON");
        b.house.tick(1);
        Bench.due("1 of 3", shareOf(b, 1), "3");
        b.house.tick(1);
        Bench.due("2 of 4", shareOf(b, 1), "2");
        b.house.tick(1);
        Bench.due("3 of 5", shareOf(b, 1), "1");
        b.tell(1, "CALC:LIM:STAT OFF");
        b.house.tick(64);
        Bench.due("3 of 69", shareOf(b, 1), "23");
        b.house.tick(2);
        Bench.due("3 of 71", shareOf(b, 1), "23");
        Bench.due("of another one", shareOf(b, 2), "ArithmeticException");
        Bench all = Bench.with(1);
        all.tell(0, "CALC:LIM:STAT ON;:INIT");
        all.house.tick(1);
        Bench.due("1 of 1", shareOf(all, 0), "1");
    }
}
