/** The boundary cases of part 5's first lines and of promises 12, 13: layers, COUNT, DELAY, TIMER, APERTURE, BUS events, TICKS. */
public final class TriggerBoundsTest {
    private static final int BAD = GaugeHouse.BAD;

    public static void main(String[] args) {
        ticks();
        refusedTriggers();
        settingsOfTriggers();
        delays();
        apertures();
        counts();
        countsBelowWhatWasPassed();
        timers();
        timersShorterThanReadings();
        timersOfEachPass();
        timersOfOtherSources();
        armSourceWhileItWaits();
        triggerSourceWhileItWaits();
        timerWhileItWaits();
        sourceInTheMidstOfAMessage();
        operationAsTheSourceChanges();
        whatDoesNotWait();
        initiatedTwice();
        readWhileContinuous();
        busEvents();
        pending();
        order();
        Bench.end();
    }

    private static Bench meter(String message) {
        Bench b = Bench.with(1);
        b.tell(0, message);
        Bench.due("ERRORS of " + message, b.house.about(0, 3), 0);
        return b;
    }

    private static void at(Bench b, int layer, int readings) {
        Bench.due("layer at TIME " + b.house.count(3), b.house.about(0, 4), layer);
        Bench.due("READINGS at TIME " + b.house.count(3), b.house.about(0, 7), readings);
    }

    /** "So many TICKS (1 .. 64): TIME. BAD." */
    private static void ticks() {
        GaugeHouse x = new GaugeHouse();
        int[] bad = {0, -1, 65, 100, Integer.MIN_VALUE, Integer.MAX_VALUE};
        int time = 0;
        int[] good = {1, 2, 63, 64};
        for (int n : good) {
            for (int m : bad) Bench.due("tick(" + m + ")", x.tick(m), BAD);
            Bench.due("TIME stays", x.count(3), time);
            time += n;
            Bench.due("tick(" + n + ")", x.tick(n), time);
            Bench.due("TIME", x.count(3), time);
        }
    }

    /** "BAD: also no METER." */
    private static void refusedTriggers() {
        Bench b = Bench.with(0, 1, 2);
        int[] bad = {0, 3, -1, Integer.MIN_VALUE, Integer.MAX_VALUE};
        for (int i : bad) Bench.due("trigger(" + i + ")", b.house.trigger(i), BAD);
        Bench.due("ERRORS of the PLAIN one", b.house.about(0, 3), 0);
        Bench.due("a METER", b.house.trigger(1), 0);
        Bench.due("a SCANNER", b.house.trigger(2), 0);
        Bench.due("nobody waits", b.house.error(2, 0), -211);
    }

    private static void bounds(String header, int c, int least, int greatest, int first) {
        Bench b = Bench.with(1);
        Bench.due(header + " at first", b.house.setting(0, c, 1, 0), first);
        int[] good = {least, greatest};
        for (int v : good) {
            Bench.due("errors of " + header + v, b.errorsOf(0, header + " " + v), "");
            Bench.due("set by " + header + v, b.house.setting(0, c, 1, 0), v);
        }
        String[] bad = {" " + (least - 1), " " + (greatest + 1), " " + greatest + ".5", " " + (least - 1) + (least > 0 ? ".4999" : ".5")};
        for (String s : bad) Bench.due("errors of " + header + s, b.errorsOf(0, header + s), "-222");
        Bench.due("it stays", b.house.setting(0, c, 1, 0), greatest);
        Bench.due("its bounds", b.ask(0, header + "? MIN;:" + header + "? MAX;:" + header + "? DEF"), least + ";" + greatest + ";" + first + "\n");
    }

    /** ":ARM:COUNt whole 1 9 1 .. :TRIGger:COUNt whole 1 9 1 .. DELay whole 0 20 0 .. TIMer whole 1 50 1 .. APERture whole 1 10 1 .. RANGe whole 0 6 0" */
    private static void settingsOfTriggers() {
        bounds("ARM:COUN", 4, 1, 9, 1);
        bounds("TRIG:COUN", 6, 1, 9, 1);
        bounds("TRIG:DEL", 7, 0, 20, 0);
        bounds("TRIG:TIM", 8, 1, 50, 1);
        bounds("APER", 13, 1, 10, 1);
        bounds("RANG", 11, 0, 6, 0);
    }

    /** "DELAY TICKS (3)" */
    private static void delays() {
        int[] delays = {0, 1, 2, 20};
        for (int d : delays) {
            Bench b = meter("TRIG:DEL " + d + ";:INIT");
            for (int t = 0; t < d; t++) {
                at(b, 3, 0);
                b.house.tick(1);
            }
            at(b, 4, 0);
            b.house.tick(1);
            at(b, 0, 1);
        }
    }

    /** "the READING (4) is APERTURE TICKS long, and is made at the end of the last one" */
    private static void apertures() {
        int[] apertures = {1, 2, 10};
        for (int a : apertures) {
            Bench b = meter("APER " + a + ";:INIT");
            for (int t = 0; t < a; t++) {
                at(b, 4, 0);
                b.house.tick(1);
            }
            at(b, 0, 1);
        }
        Bench b = Bench.with(1);
        b.house.wire(0, 0, 0);
        b.house.signal(0, 2, 0, 1, 1000);
        b.tell(0, "APER 10;:READ?");
        b.house.tick(10);
        Bench.due("read at the end of the last one", b.take(0), "0.010\n");
    }

    /** "till it was passed as often as its COUNT tells, then to the ARM layer likewise; then IDLE" */
    private static void counts() {
        int[][] counts = {{1, 1}, {1, 2}, {2, 1}, {9, 1}, {1, 9}, {9, 9}};
        for (int[] c : counts) {
            Bench b = meter("ARM:COUN " + c[0] + ";:TRIG:COUN " + c[1] + ";:INIT");
            int n = c[0] * c[1];
            for (int t = 1; t < n; t++) b.house.tick(1);
            at(b, 4, n - 1);
            b.house.tick(1);
            at(b, 0, n);
            b.house.tick(9);
            at(b, 0, n);
        }
        Bench b = meter("ARM:SOUR BUS;COUN 9;:TRIG:SOUR BUS;COUN 9;:INIT");
        for (int k = 0; k < 9; k++) {
            at(b, 1, 2 * k);
            Bench.due("the ARM layer alone", b.house.trigger(0), 2);
            if (k == 0) b.tell(0, "TRIG:COUN 2");
            for (int j = 0; j < 2; j++) {
                at(b, 2, 2 * k + j);
                Bench.due("the TRIGGER layer alone", b.house.trigger(0), 4);
                b.house.tick(1);
            }
        }
        at(b, 0, 18);
    }

    /** "Settings count as they are when they are asked." */
    private static void countsBelowWhatWasPassed() {
        Bench b = meter("TRIG:COUN 9;:INIT");
        b.house.tick(4);
        b.tell(0, "TRIG:COUN 2");
        b.house.tick(1);
        at(b, 0, 5);
        Bench c = meter("ARM:COUN 9;:INIT");
        c.house.tick(4);
        c.tell(0, "ARM:COUN 1");
        c.house.tick(1);
        at(c, 0, 5);
        Bench d = meter("TRIG:COUN 2;:INIT");
        d.house.tick(1);
        d.tell(0, "TRIG:COUN 3");
        d.house.tick(1);
        at(d, 4, 2);
        d.house.tick(1);
        at(d, 0, 3);
    }

    /** "TIMer: as soon as TIMER TICKS are over since the READING (4) before in this pass of the ARM layer began; the first one at once" */
    private static void timers() {
        int[] timers = {1, 2, 3, 50};
        for (int n : timers) {
            Bench b = meter("TRIG:SOUR TIM;TIM " + n + ";COUN 2;:INIT");
            at(b, 4, 0);
            b.house.tick(1);
            for (int t = 1; t < n; t++) {
                at(b, 2, 1);
                b.house.tick(1);
            }
            at(b, 4, 1);
            b.house.tick(1);
            at(b, 0, 2);
        }
    }

    private static void timersShorterThanReadings() {
        for (int n = 3; n <= 6; n++) {
            Bench b = meter("TRIG:SOUR TIM;TIM " + n + ";COUN 2;:APER 5;:INIT");
            b.house.tick(4);
            at(b, 4, 0);
            b.house.tick(1);
            at(b, n <= 5 ? 4 : 2, 1);
            b.house.tick(1);
            at(b, 4, 1);
        }
        Bench b = meter("TRIG:SOUR TIM;TIM 4;COUN 2;DEL 3;:INIT");
        b.house.tick(3);
        at(b, 4, 0);
        b.house.tick(3);
        at(b, 2, 1);
        b.house.tick(1);
        at(b, 3, 1);
        b.house.tick(3);
        at(b, 4, 1);
        b.house.tick(1);
        at(b, 0, 2);
    }

    private static void timersOfEachPass() {
        Bench b = meter("TRIG:SOUR TIM;TIM 50;:ARM:COUN 3;:INIT");
        for (int k = 0; k < 3; k++) {
            at(b, 4, k);
            b.house.tick(1);
        }
        at(b, 0, 3);
        b.tell(0, "TRIG:COUN 2;:ARM:COUN 1;:INIT");
        b.house.tick(49);
        at(b, 2, 4);
        b.tell(0, "ABOR;:INIT");
        at(b, 4, 4);
    }

    private static void timersOfOtherSources() {
        Bench b = meter("TRIG:TIM 50;COUN 3;:INIT");
        for (int k = 0; k < 3; k++) {
            at(b, 4, k);
            b.house.tick(1);
        }
        at(b, 0, 3);
        b.tell(0, "TRIG:SOUR BUS;TIM 1;:INIT");
        b.house.tick(5);
        at(b, 2, 3);
        Bench.due("the BUS alone", b.house.trigger(0), 4);
        b.house.tick(5);
        at(b, 2, 4);
    }

    /** "the ARM layer (1) waits for its SOURCE (IMMediate: at once; BUS), then passes it"; "What takes no TICK goes on at once." */
    private static void armSourceWhileItWaits() {
        String[] behind = {"TRIG:DEL 0", "TRIG:DEL 1", "TRIG:SOUR BUS", "TRIG:SOUR TIM;TIM 50", "APER 10"};
        int[] layers = {4, 3, 2, 4, 4};
        for (int k = 0; k < 5; k++) {
            Bench b = meter("ARM:SOUR BUS;:" + behind[k] + ";:INIT");
            at(b, 1, 0);
            b.tell(0, "ARM:SOUR BUS");
            at(b, 1, 0);
            b.tell(0, "ARM:SOUR IMM");
            at(b, layers[k], 0);
            b.tell(0, "ARM:SOUR BUS");
            at(b, layers[k], 0);
        }
        Bench b = meter("ARM:SOUR BUS;COUN 3;:TRIG:COUN 2;:INIT");
        b.house.tick(5);
        at(b, 1, 0);
        b.tell(0, "ARM:SOUR IMM");
        at(b, 4, 0);
        b.tell(0, "ARM:SOUR BUS");
        b.house.tick(2);
        at(b, 1, 2);
        b.tell(0, "ARM:SOUR IMM");
        at(b, 4, 2);
        b.house.tick(4);
        at(b, 0, 6);
        Bench c = meter("ARM:SOUR BUS;:INIT:CONT ON");
        at(c, 1, 0);
        c.tell(0, "ARM:SOUR IMM");
        at(c, 4, 0);
        c.house.tick(3);
        at(c, 4, 3);
        Bench d = meter("ARM:SOUR BUS;:INIT");
        d.test("send 0 'ARM:SOUR IMM'; wait 1; ask 0 'FETC?';");
        Bench.due("in a RUN", d.house.run(0, 9), 0);
        at(d, 0, 1);
    }

    /** "the TRIGGER layer (2) likewise" */
    private static void triggerSourceWhileItWaits() {
        String[] sources = {"IMM", "TIM;TIM 50"};
        for (String s : sources) {
            Bench b = meter("TRIG:SOUR BUS;:INIT");
            b.tell(0, "TRIG:SOUR BUS");
            at(b, 2, 0);
            b.tell(0, "TRIG:SOUR " + s);
            at(b, 4, 0);
            b.house.tick(1);
            at(b, 0, 1);
            Bench c = meter("TRIG:SOUR BUS;DEL 2;:INIT");
            c.house.tick(2);
            at(c, 2, 0);
            c.tell(0, "TRIG:SOUR " + s);
            at(c, 3, 0);
            c.house.tick(1);
            at(c, 3, 0);
            c.house.tick(1);
            at(c, 4, 0);
        }
        Bench b = meter("TRIG:SOUR TIM;TIM 50;COUN 3;:INIT");
        b.house.tick(2);
        at(b, 2, 1);
        b.tell(0, "TRIG:SOUR BUS");
        at(b, 2, 1);
        b.tell(0, "TRIG:SOUR IMM");
        at(b, 4, 1);
        b.tell(0, "TRIG:SOUR TIM");
        b.house.tick(1);
        at(b, 2, 2);
    }

    /** "TIMer: as soon as TIMER TICKS are over since the READING (4) before .. began"; "Settings count as they are when they are asked." */
    private static void timerWhileItWaits() {
        int[] passed = {2, 3, 49};
        for (int n : passed) {
            String[] told = {"TRIG:TIM " + (n + 1), "TRIG:TIM " + n, "TRIG:TIM " + (n - 1), "TRIG:TIM MIN", "TRIG:TIM? MIN"};
            int[] layers = {2, 4, 4, 4, 2};
            for (int k = 0; k < 5; k++) {
                Bench b = meter("TRIG:SOUR TIM;TIM 50;COUN 2;:INIT");
                b.house.tick(n);
                at(b, 2, 1);
                b.tell(0, told[k]);
                at(b, layers[k], 1);
            }
        }
        Bench b = meter("TRIG:SOUR BUS;TIM 5;COUN 2;:INIT;*TRG");
        b.house.tick(4);
        b.tell(0, "TRIG:SOUR TIM");
        at(b, 2, 1);
        b.house.tick(1);
        at(b, 4, 1);
        Bench c = meter("TRIG:SOUR BUS;TIM 5;COUN 2;:INIT;*TRG");
        c.house.tick(5);
        c.tell(0, "TRIG:SOUR TIM");
        at(c, 4, 1);
    }

    private static void sourceInTheMidstOfAMessage() {
        String[] waits = {"ARM", "TRIG"};
        for (String w : waits) {
            Bench b = meter(w + ":SOUR BUS;:INIT");
            Bench.due("nobody waits any more", b.errorsOf(0, w + ":SOUR IMM;*TRG"), "-211");
            at(b, 4, 0);
            b.tell(0, "ABOR;:" + w + ":SOUR BUS;:INIT");
            Bench.due("not IDLE", b.errorsOf(0, w + ":SOUR IMM;:INIT"), "-213");
            at(b, 4, 0);
            b.house.tick(1);
            at(b, 0, 1);
            b.tell(0, w + ":SOUR BUS;:INIT");
            b.part(0, w + ":SOUR IMM");
            Bench.due("the UNIT has not ended", b.house.about(0, 4), w.equals("ARM") ? 1 : 2);
            b.part(0, ";");
            at(b, 4, 1);
            b.tell(0, "*OPC?");
            Bench.due("PENDING", b.house.take(0), -4);
            b.house.tick(1);
            Bench.due("IDLE", b.take(0), "1\n");
            b.tell(0, w + ":SOUR BUS;:INIT;:" + w + ":SOUR IMM;*WAI;:FETC?");
            at(b, 4, 2);
            b.house.tick(1);
            Bench.due("behind *WAI", b.take(0), "9.91E37\n");
            at(b, 0, 3);
        }
        Bench b = meter("ARM:SOUR BUS;:TRIG:SOUR BUS;:INIT;:ARM:SOUR IMM;:ARM:SOUR BUS");
        at(b, 2, 0);
        Bench c = meter("ARM:SOUR BUS;:TRIG:SOUR BUS;:INIT;:TRIG:SOUR IMM;:TRIG:SOUR BUS");
        at(c, 1, 0);
        Bench d = meter("ARM:SOUR BUS;:INIT");
        Bench.due("a UNIT with an ERROR sets nothing", d.errorsOf(0, "ARM:SOUR TIM"), "-141");
        at(d, 1, 0);
    }

    /** "CONDITION of OPERATION is looked at when what goes on at once has gone" */
    private static void operationAsTheSourceChanges() {
        Bench b = meter("ARM:SOUR BUS;:STAT:OPER:NTR 32767;ENAB 16;*SRE 128;:INIT;:STAT:OPER?");
        Bench.due("EVENT as the ARM layer waits", b.take(0), "64\n");
        Bench.due("no SERVICE yet", b.house.service(), 0);
        b.tell(0, "ARM:SOUR IMM");
        Bench.due("CONDITION", b.house.register(0, 0, 0), 16);
        Bench.due("64 went, 16 came, 32 never was", b.house.register(0, 0, 3), 80);
        Bench.due("SERVICE", b.house.service(), 1);
        Bench c = meter("TRIG:SOUR BUS;:STAT:OPER:NTR 32767;:INIT;:STAT:OPER?");
        Bench.due("EVENT as the TRIGGER layer waits", c.take(0), "32\n");
        c.tell(0, "TRIG:DEL 2;SOUR IMM");
        Bench.due("CONDITION", c.house.register(0, 0, 0), 0);
        Bench.due("32 went", c.house.register(0, 0, 3), 32);
    }

    /** "DELAY TICKS (3); the READING (4) is APERTURE TICKS long": they are asked as they begin. */
    private static void whatDoesNotWait() {
        Bench b = meter("TRIG:DEL 3;:INIT");
        b.house.tick(1);
        b.tell(0, "TRIG:DEL 0");
        at(b, 3, 0);
        Bench c = meter("APER 3;:INIT");
        c.house.tick(1);
        c.tell(0, "APER 1");
        at(c, 4, 0);
        Bench d = meter("TRIG:COUN 2;SOUR BUS;:INIT;*TRG");
        d.house.tick(1);
        d.tell(0, "TRIG:COUN 1");
        at(d, 2, 1);
        Bench e = meter("ARM:SOUR BUS;:TRIG:SOUR BUS");
        e.tell(0, "ARM:SOUR IMM;:TRIG:SOUR IMM");
        at(e, 0, 0);
    }

    /** ":INITiate .. IDLE: INITIATED; else -213" */
    private static void initiatedTwice() {
        String[] waiting = {"ARM:SOUR BUS", "TRIG:SOUR BUS", "TRIG:DEL 5", "APER 5"};
        int[] layers = {1, 2, 3, 4};
        for (int k = 0; k < 4; k++) {
            Bench b = meter(waiting[k] + ";:INIT");
            at(b, layers[k], 0);
            Bench.due("not IDLE", b.errorsOf(0, "INIT"), "-213");
            at(b, layers[k], 0);
            Bench.due("ON once more", b.errorsOf(0, "INIT:CONT ON"), "");
            at(b, layers[k], 0);
            b.tell(0, "INIT:CONT OFF;:ABOR");
            at(b, 0, 0);
            Bench.due("ABORt of one that is IDLE", b.errorsOf(0, "ABOR"), "");
            Bench.due("IDLE", b.errorsOf(0, "INIT"), "");
            at(b, layers[k], 0);
        }
    }

    /** ":READ .. CONTINUOUS: -221"; ":FETCh .. none: -230" */
    private static void readWhileContinuous() {
        Bench b = meter("INIT:CONT ON");
        Bench.due("none", b.errorsOf(0, "FETC?"), "-230");
        Bench.due("CONTINUOUS", b.errorsOf(0, "READ?"), "-221");
        at(b, 4, 0);
        b.house.tick(1);
        Bench.due("one", b.ask(0, "FETC?"), "9.91E37\n");
        b.tell(0, "INIT:CONT OFF");
        b.tell(0, "READ?");
        Bench.due("not CONTINUOUS", b.house.take(0), -4);
        b.house.tick(1);
        Bench.due("its answer", b.take(0), "9.91E37\n");
        Bench c = meter("ARM:COUN 2;:TRIG:COUN 2");
        c.tell(0, "READ?");
        c.house.tick(3);
        Bench.due("HELD till it is IDLE", c.house.take(0), -4);
        c.house.tick(1);
        Bench.due("IDLE", c.take(0), "9.91E37\n");
    }

    /** "A BUS event passes the layer alone that waits as it comes; one that nobody waits for: ERROR -211." */
    private static void busEvents() {
        String[] messages = {"*CLS", "TRIG:DEL 5;:INIT", "INIT", "TRIG:SOUR TIM;TIM 9;COUN 2;:INIT"};
        int[] layers = {0, 3, 4, 2};
        for (int k = 0; k < 4; k++) {
            Bench b = meter(messages[k]);
            if (k == 3) b.house.tick(1);
            Bench.due("nobody waits behind " + messages[k], b.house.trigger(0), layers[k]);
            Bench.due("ERROR", b.errors(0), "-211");
            Bench.due("*TRG", b.errorsOf(0, "*TRG"), "-211");
            Bench.due("the layer stays", b.house.about(0, 4), layers[k]);
        }
        Bench b = meter("ARM:SOUR BUS;:TRIG:SOUR BUS;DEL 1;:INIT");
        Bench.due("one", b.house.trigger(0), 2);
        Bench.due("two", b.house.trigger(0), 3);
        Bench.due("three", b.house.trigger(0), 3);
        Bench.due("nobody waits for the third", b.errors(0), "-211");
        Bench c = meter("ARM:SOUR BUS;:INIT");
        Bench.due("an IMMediate layer is passed at once", c.house.trigger(0), 4);
        Bench d = meter("ARM:SOUR BUS;:TRIG:SOUR BUS;:INIT;*TRG;*TRG");
        at(d, 4, 0);
    }

    /** "It is PENDING as long as it is not IDLE, unless it is CONTINUOUS." */
    private static void pending() {
        Bench b = meter("APER 2");
        Bench.due("IDLE", b.house.about(0, 5), 0);
        b.tell(0, "INIT");
        Bench.due("not IDLE", b.house.about(0, 5), 1);
        b.tell(0, "INIT:CONT ON");
        Bench.due("CONTINUOUS", b.house.about(0, 5), 0);
        b.tell(0, "INIT:CONT OFF");
        Bench.due("not CONTINUOUS", b.house.about(0, 5), 1);
        b.house.tick(1);
        Bench.due("the last TICK but one", b.house.about(0, 5), 1);
        b.house.tick(1);
        Bench.due("IDLE", b.house.about(0, 5), 0);
        b.tell(0, "INIT:CONT ON");
        b.house.tick(2);
        at(b, 4, 2);
        Bench.due("anew", b.house.about(0, 5), 0);
    }

    /** "then INSTRUMENTS go on, in order, each with what it HELD" */
    private static void order() {
        Bench b = Bench.with(1, 1);
        b.tell(0, "READ?");
        b.tell(1, "READ?;READ?");
        b.house.tick(1);
        Bench.due("the first", b.take(0), "9.91E37\n");
        Bench.due("the second, half of it", b.take(1), "9.91E37");
        Bench.due("its other half", b.house.take(1), -4);
        b.house.tick(1);
        Bench.due("its other half", b.take(1), ";9.91E37\n");
    }
}
