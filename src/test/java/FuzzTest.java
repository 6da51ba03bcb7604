/** Any calls in any order: nothing is thrown but by share, every call ends, the same calls answer the same, limits hold. */
public final class FuzzTest {
    private static final String[] PIECES = {"*IDN?", "*TST?", "*ESR?", "*OPC", "*OPC?", "*WAI", "*RST", "*CLS", "*TRG", "*SAV 1", "*RCL 1", "*SRE 255",
        "*ESE 255", "*STB?", "INIT", ":INIT", ":INIT:CONT ON", "INIT:CONT 0", ":ABOR", ":READ?", ":FETC?", ":ARM:SOUR BUS", ":ARM:SOUR IMM", ":ARM:COUN 3",
        ":TRIG:SOUR TIM", ":TRIG:SOUR BUS", ":TRIG:COUN 2", ":TRIG:DEL 3", ":TRIG:TIM 4", ":RANG 3", ":RANG:AUTO ON", "APER 2", ":CALC:NULL 1.5mV",
        ":CALC:LIM:STAT ON", ":CALC:LIM:LOW -1", "UPP 3", ":TRAC:FEED ON", ":TRAC:DATA #13a;b", ":ROUT:CLOS (@1:8)", "CLOS? (@1,2,9)", ":ROUT:OPEN (@3)",
        ":DISP:TEXT 'a;b'", "TEXT?", ":STAT:OPER?", "COND?", ":STAT:QUES:ENAB 513", ":STAT:PRES", ":SYST:ERR?", "ERR:COUN?", ":OWN2:L 3,UP", "L?", ":OWN:L? ",
        "#0", "#15", "'", "\"", "(@", "1E", "#H", "FOO", "\n", ";", ",", " ", "?", ":", "*", "9", "E+", "V", "_", "\u00ff", "\0"};
    private static final String[] STATEMENTS = {"send 0 'INIT';", "ask 1 'READ?';", "ask 0 '*IDN?';", "want 0 5000;", "wait 3;", "check 1;", "raise 5;",
        "repeat 3{", "}", "try{", "fail 0{", "last{", "fail 5{", "send 2 '*RST;*CLS';", "ask 2 ':TRIG:COUN 2;:READ?;*TST?';", "$"};
    private static long seed;

    private static int pick(int n) {
        seed = seed * 6364136223846793005L + 1442695040888963407L;
        return (int) ((seed >>> 33) % n);
    }

    private static int odd(int n) {
        int k = pick(12);
        return k == 0 ? -1 : k == 1 ? n : k == 2 ? Integer.MIN_VALUE : k == 3 ? Integer.MAX_VALUE : pick(n);
    }

    public static void main(String[] args) {
        for (int run = 0; run < 1200; run++) {
            long first = answers(run);
            Bench.due("run " + run + " again", answers(run), first);
        }
        Bench.end();
    }

    private static long answers(int run) {
        seed = run * 7919L + 17;
        GaugeHouse x = new GaugeHouse();
        long sum = 0;
        tape(x, ":OWN#3:L whole 0 9 1 choice UP/DOWN;:OWN:M? truth 1;");
        sum = sum * 31 + x.own();
        for (int k = 0; k < 4; k++) sum = sum * 31 + x.instrument(pick(3));
        // with the feeds some 500 calls
        for (int k = 0; k < 110; k++) sum = sum * 31 + call(x);
        for (int i = 0; i < 4; i++) {
            boolean right = x.about(i, 1) <= 80 && x.about(i, 2) <= 60 && x.about(i, 3) <= 10;
            if (!right) Bench.due("limits of run " + run, 1, 0);
        }
        return sum;
    }

    private static void tape(GaugeHouse x, String s) {
        for (int at = 0; at < s.length(); at += 8) {
            int n = Math.min(8, s.length() - at);
            long w = 0;
            for (int k = 0; k < n; k++) w = w << 8 | s.charAt(at + k);
            x.feed(w, n);
        }
    }

    private static String message(String[] pieces) {
        StringBuilder s = new StringBuilder();
        int n = 1 + pick(12);
        for (int k = 0; k < n; k++) s.append(pieces[pick(pieces.length)]).append(pieces == PIECES && pick(5) > 0 ? ";" : "");
        return s.toString();
    }

    private static long call(GaugeHouse x) {
        int what = pick(40);
        if (what < 10) {
            tape(x, message(PIECES));
            return x.send(pick(5), pick(3) > 0);
        }
        switch (what) {
            case 10: case 11: case 12: case 13: case 14: case 15: return x.take(odd(4));
            case 16: return x.clear(odd(4));
            case 17: return x.poll(odd(4));
            case 18: return x.service();
            case 19: return x.trigger(odd(4));
            case 20: case 21: case 22: return x.tick(1 + pick(3));
            case 23: return x.signal(odd(6), odd(5), pick(4000) - 2000, odd(3000), 1 + pick(9));
            case 24: return x.wire(odd(4), odd(9), odd(6));
            case 25: return x.about(odd(4), odd(12));
            case 26: return x.register(odd(4), odd(3), odd(5));
            case 27: return x.error(odd(4), odd(10));
            case 28: return x.setting(odd(4), odd(40), odd(4), odd(2));
            case 29: return x.reading(odd(4), odd(40));
            case 30: return x.lane(odd(4), odd(3), odd(8), odd(41));
            case 31: return x.put(odd(4), odd(3), odd(8), odd(41), seed);
            case 32: return x.get(odd(4), odd(3), odd(8), odd(41));
            case 33: return x.mark(odd(4), odd(3), odd(41), odd(100)) * 31L + x.marked(odd(4), odd(3), odd(41));
            case 34: return x.copy(odd(4), odd(3), odd(41), odd(4), odd(3), odd(41), odd(41));
            case 35: return x.measure(odd(4), odd(3), odd(6));
            case 36:
                tape(x, message(STATEMENTS));
                return x.test();
            case 37: return x.run(odd(6), 1 + pick(100)) * 31L + x.ran(odd(4)) + x.result(odd(30), odd(2));
            case 38:
                tape(x, message(PIECES));
                return x.header() * 31L + x.command(odd(40), odd(4)) + x.count(odd(8));
            default: return share(x);
        }
    }

    private static long share(GaugeHouse x) {
        try {
            return x.share(odd(4));
        } catch (IllegalArgumentException e) {
            return -1;
        } catch (ArithmeticException e) {
            // the machine's own names a division
            return e.getMessage() != null && e.getMessage().contains("/") ? -9 : -2;
        }
    }
}
