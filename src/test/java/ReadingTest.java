/** Promises 14, 15, 20 and 33: SIGNALS, wires, READINGS, share. */
public final class ReadingTest {
    private static final long NAN = 0x7ff8000000000000L;

    public static void main(String[] args) {
        refusals();
        shapes();
        ranges();
        rounding();
        over();
        limits();
        scanner();
        kept();
        told();
        shares();
        Bench.end();
    }

    private static Bench wired() {
        Bench b = Bench.with(1);
        b.house.wire(0, 0, 0);
        return b;
    }

    private static long read(Bench b) {
        b.tell(0, "INIT");
        b.house.tick(1);
        return b.house.reading(0, 0);
    }

    private static void refusals() {
        Bench b = Bench.with(0, 1, 2);
        int[][] bad = {{-1, 0, 0, 0, 1}, {6, 0, 0, 0, 1}, {0, -1, 0, 0, 1}, {0, 5, 0, 0, 1}, {0, 0, 1000000001, 0, 1}, {0, 0, -1000000001, 0, 1},
            {0, 0, 0, 1000000001, 1}, {0, 0, 0, -1000000001, 1}, {0, 0, 0, 0, 0}, {0, 0, 0, 0, 1001}, {0, 3, 0, 0, 0}};
        for (int[] s : bad) Bench.due("signal", b.house.signal(s[0], s[1], s[2], s[3], s[4]), -1);
        Bench.due("signal", b.house.signal(5, 4, 1000000000, -1000000000, 1000), 1);
        Bench.due("signal", b.house.signal(0, 0, -1000000000, 1000000000, 1), 1);
        int[][] wires = {{0, 0, 0}, {3, 0, 0}, {-1, 0, 0}, {1, 1, 0}, {1, -1, 0}, {1, 0, 6}, {1, 0, -2}, {2, 0, 0}, {2, 9, 0}, {2, -1, 0}};
        for (int[] w : wires) Bench.due("wire", b.house.wire(w[0], w[1], w[2]), -1);
        Bench.due("wire", b.house.wire(1, 0, 5), -1);
        Bench.due("was joined", b.house.wire(1, 0, 2), 5);
        Bench.due("was joined", b.house.wire(1, 0, -1), 2);
        Bench.due("was joined", b.house.wire(1, 0, 0), -1);
        Bench.due("wire", b.house.wire(2, 8, 3), -1);
        Bench.due("was joined", b.house.wire(2, 8, 3), 3);
        long none = GaugeHouse.NONE;
        Bench.due("reading of a PLAIN one", b.house.reading(0, 0), none);
        Bench.due("reading(3, 0)", b.house.reading(3, 0), none);
        Bench.due("reading of none", b.house.reading(1, 0), none);
        Bench.due("reading(1, -1)", b.house.reading(1, -1), none);
    }

    private static void shapes() {
        Bench b = wired();
        b.tell(0, "RANG 3");
        Bench.due("at first", read(b), NAN);
        b.house.signal(0, 0, 1200, 7, 5);
        Bench.due("shape 0", read(b), bits(1.2 / 0.1, 0.1, 0));
        b.house.signal(0, 1, 1000, 3000, 3);
        for (int t = 3; t < 10; t++) Bench.due("shape 1 at " + t, read(b), bits((t / 3 % 2 == 0 ? 1.0 : 3.0) / 0.1, 0.1, 0));
        b.house.signal(0, 2, 1000000, -2000, 4);
        for (int t = 10; t < 16; t++) Bench.due("shape 2 at " + t, read(b), bits((1000000L - 2000L * (t % 4)) / 1000.0 / 0.1, 0.1, 0));
        b.house.signal(0, 3, 1000, 0, 1);
        Bench.due("shape 3", read(b), NAN);
        b.house.signal(0, 4, 6000, 0, 4);
        for (int t = 17; t < 20; t++) Bench.due("shape 4 at " + t, read(b), bits(6000 / 1000.0 / (t % 4) / 0.1, 0.1, 0));
        Bench.due("by 0", read(b), Double.doubleToLongBits(9.9E37));
        b.house.signal(0, 4, -6000, 0, 1);
        Bench.due("below 0 by 0", read(b), Double.doubleToLongBits(-9.9E37));
        b.house.signal(0, 4, 0, 0, 1);
        Bench.due("0 by 0", read(b), NAN);
        b.house.signal(0, 4, 0, 0, 2);
        Bench.due("0 by 1", read(b), 0);
        b.house.signal(0, 2, 1000000000, 1000000000, 1000);
        b.tell(0, "RANG 6");
        Bench.due("as a long", read(b), Double.doubleToLongBits(9.9E37));
        b.house.wire(0, 0, -1);
        Bench.due("no SIGNAL", read(b), NAN);
    }

    private static long bits(double steps, double step, int offset) {
        return Double.doubleToLongBits(Math.rint(steps) * step - offset / 1000.0);
    }

    private static void ranges() {
        Bench b = wired();
        int[] a = {1000, 1001, -10000, 10001, 100000, 1000000, 10000000, 100000000, 999999999, 1000000000, 0};
        int[] due = {0, 1, 1, 2, 2, 3, 4, 5, 6, 6, 0};
        b.tell(0, "RANG:AUTO ON");
        for (int k = 0; k < a.length; k++) {
            b.house.signal(0, 0, a[k], 0, 1);
            read(b);
            Bench.due("RANGE of " + a[k], b.house.about(0, 8), due[k]);
        }
        b.house.signal(0, 0, 50000, 0, 1);
        read(b);
        b.house.signal(0, 3, 0, 0, 1);
        read(b);
        Bench.due("RANGE as it was", b.ask(0, "RANG?;RANG:AUTO?"), "2;1\n");
        b.house.signal(0, 4, 5, 0, 1);
        read(b);
        Bench.due("RANGE of what is infinite", b.house.about(0, 8), 6);
        b.tell(0, "RANG 1");
        Bench.due("AUTO is off", b.ask(0, "RANG:AUTO?"), "0\n");
        b.tell(0, "RANG:AUTO ON;:RANG 9");
        Bench.due("not by an ERROR", b.ask(0, "RANG:AUTO?"), "1\n");
    }

    private static void rounding() {
        long seed = 12345;
        Bench b = wired();
        for (int k = 0; k < 120; k++) {
            seed = seed * 6364136223846793005L + 1442695040888963407L;
            int r = (int) (seed >>> 33) % 7;
            if (r < 0) r += 7;
            double top = Math.pow(10, r);
            int a = (int) ((seed >> 20) % (long) (top * 1000));
            int offset = k % 3 == 0 ? 0 : (int) ((seed >> 11) % 1000001);
            if (k % 40 == 0) b = wired();
            b.house.signal(0, 0, a, 0, 1);
            b.tell(0, "RANG " + r + ";:CALC:NULL " + offset / 1000 + "." + String.format("%03d", Math.abs(offset % 1000)));
            int set = (int) b.house.setting(0, 14, 1, 0);
            double step = top / 10000.0;
            double x = Math.rint(a / 1000.0 / step) * step - set / 1000.0;
            Bench.due("READING of " + a + " in RANGE " + r + " less " + set, read(b), Double.doubleToLongBits(x));
        }
        Bench c = wired();
        c.house.signal(0, 0, -4, 0, 1);
        c.tell(0, "RANG 2");
        Bench.due("-0.0 is NONE", read(c), GaugeHouse.NONE);
        Bench.due("it is told", c.ask(0, "FETC?"), "0.000\n");
        c.house.signal(0, 0, -5, 0, 1);
        Bench.due("a half goes to the even one", read(c), GaugeHouse.NONE);
        c.house.signal(0, 0, -15, 0, 1);
        Bench.due("a half goes to the even one", read(c), Double.doubleToLongBits(-2 * (100.0 / 10000.0)));
        Bench.due("it is told", c.ask(0, "FETC?"), "-0.020\n");
    }

    private static void over() {
        Bench b = wired();
        b.house.signal(0, 0, 1000, 0, 1);
        Bench.due("at the edge", read(b), Double.doubleToLongBits(1.0));
        Bench.due("not OVER", b.house.register(0, 1, 0), 0);
        b.house.signal(0, 0, 1001, 0, 1);
        b.tell(0, "CALC:NULL 1000");
        Bench.due("OVER less NULL", read(b), Double.doubleToLongBits(9.9E37 - 1000.0));
        Bench.due("OVER", b.house.register(0, 1, 0), 1);
        Bench.due("it is told", b.ask(0, "FETC?"), "9.9E37\n");
        b.house.signal(0, 0, -1001, 0, 1);
        read(b);
        Bench.due("it is told", b.ask(0, "FETC?"), "-9.9E37\n");
        b.house.signal(0, 3, 0, 0, 1);
        read(b);
        Bench.due("not a number is not OVER", b.house.register(0, 1, 0), 0);
    }

    private static void limits() {
        Bench b = wired();
        b.tell(0, "RANG 1;:CALC:LIM:LOW 2;UPP 3");
        Bench.due("none", b.ask(0, "CALC:LIM:FAIL?"), "0\n");
        int[] a = {2000, 3000, 1999, 3001, 2500};
        int[] fails = {0, 0, 1, 1, 0};
        for (int on = 0; on < 2; on++) {
            b.tell(0, "CALC:LIM:STAT " + on);
            for (int k = 0; k < a.length; k++) {
                b.house.signal(0, 0, a[k], 0, 1);
                read(b);
                Bench.due("FAIL of " + a[k], b.ask(0, "CALC:LIM:FAIL?"), on * fails[k] + "\n");
                Bench.due("QUESTIONABLE", b.house.register(0, 1, 0), 512 * on * fails[k]);
            }
        }
        b.house.signal(0, 0, 20000, 0, 1);
        read(b);
        Bench.due("OVER FAILS", b.house.register(0, 1, 0), 513);
        b.house.signal(0, 3, 0, 0, 1);
        read(b);
        Bench.due("not a number FAILS", b.house.register(0, 1, 0), 512);
        b.house.signal(0, 0, 5000, 0, 1);
        b.tell(0, "CALC:NULL 2.5");
        read(b);
        Bench.due("less NULL", b.house.register(0, 1, 0), 0);
    }

    private static void scanner() {
        Bench b = Bench.with(2);
        for (int c = 1; c <= 8; c++) b.house.wire(0, c, c % 6);
        for (int k = 0; k < 6; k++) b.house.signal(k, 0, 100 * k, 0, 1);
        Bench.due("no channel", read(b), NAN);
        b.tell(0, "ROUT:CLOS (@7,3)");
        Bench.due("the least channel", read(b), bits(0.3 / 0.0001, 0.0001, 0));
        b.tell(0, "ROUT:OPEN (@3)");
        Bench.due("the other one", read(b), bits(0.1 / 0.0001, 0.0001, 0));
        b.house.wire(0, 7, -1);
        Bench.due("not joined", read(b), NAN);
        Bench.due("bits", b.house.about(0, 9), 1 << 7);
        b.tell(0, "ROUT:CLOS (@8)");
        Bench.due("the last channel", read(b), bits(0.2 / 0.0001, 0.0001, 0));
        Bench.due("one of a half", b.house.about(0, 9), 1 << 8);
        b.tell(0, "ROUT:CLOS (@4:1)");
        Bench.due("falling", b.house.about(0, 9), 1 << 8 | 1 << 1);
        Bench.due("how often", b.house.about(0, 10), 7);
        b.tell(0, "ROUT:CLOS (@2,9)");
        Bench.due("none then", b.house.about(0, 9), 1 << 8 | 1 << 1);
        Bench.due("how often", b.house.about(0, 10), 7);
        Bench.due("asked", b.ask(0, "ROUT:CLOS? (@1:8);CLOS? (@8,8,1)"), "1,0,0,0,0,0,0,1;1,1,1\n");
        b.tell(0, "ROUT:OPEN (@1:8)");
        Bench.due("none", b.house.about(0, 9), 0);
    }

    private static void kept() {
        Bench b = wired();
        b.house.signal(0, 2, 0, 1, 1000);
        b.tell(0, "INIT:CONT ON");
        b.house.tick(45);
        Bench.due("READINGS ever", b.house.about(0, 7), 45);
        for (int k = 0; k < 40; k++) {
            Bench.due("reading " + k, b.house.reading(0, k), bits((45 - k) / 1000.0 / 0.0001, 0.0001, 0));
        }
        Bench.due("no more", b.house.reading(0, 40), GaugeHouse.NONE);
        b.tell(0, "*RST");
        Bench.due("*RST leaves them", b.house.reading(0, 39), bits(6 / 1000.0 / 0.0001, 0.0001, 0));
    }

    private static void told() {
        Bench b = wired();
        b.tell(0, "FETC?");
        Bench.due("none", b.errors(0), "-230");
        int[] a = {1, -1, 999, 1234567, -1000000, 0};
        String[] due = {"0.000", "0.000", "1.000", "1235.000", "-1000.000", "0.000"};
        int[] ranges = {3, 3, 3, 4, 4, 0};
        for (int k = 0; k < a.length; k++) {
            b.house.signal(0, 0, a[k], 0, 1);
            b.tell(0, "RANG " + ranges[k]);
            b.tell(0, "READ?");
            b.house.tick(1);
            Bench.due("READ? of " + a[k], b.take(0), due[k] + "\n");
            Bench.due("FETCh?", b.ask(0, "FETC?"), due[k] + "\n");
        }
        b.tell(0, "CALC:NULL 0.125");
        b.tell(0, "READ?");
        b.house.tick(1);
        Bench.due("less NULL", b.take(0), "-0.125\n");
    }

    private static String shareOf(Bench b, int i) {
        try {
            return "" + b.house.share(i);
        } catch (IllegalArgumentException e) {
            return "IllegalArgumentException";
        } catch (ArithmeticException e) {
            return "ArithmeticException";
        }
    }

    private static void shares() {
        Bench b = Bench.with(1, 0, 2);
        Bench.due("share of a PLAIN one", shareOf(b, 1), "IllegalArgumentException");
        Bench.due("share(3)", shareOf(b, 3), "IllegalArgumentException");
        Bench.due("share(-1)", shareOf(b, -1), "IllegalArgumentException");
        Bench.due("share of none", shareOf(b, 0), "ArithmeticException");
        Bench.due("share of none", shareOf(b, 2), "ArithmeticException");
        b.tell(0, "INIT:CONT ON");
        b.house.tick(44);
        Bench.due("none FAILED", shareOf(b, 0), "ArithmeticException");
        b.tell(0, "CALC:LIM:STAT ON");
        b.house.tick(1);
        Bench.due("one FAILED", shareOf(b, 0), "45");
        b.house.tick(1);
        Bench.due("two FAILED", shareOf(b, 0), "23");
        b.house.tick(1);
        Bench.due("cut", shareOf(b, 0), "15");
    }
}
