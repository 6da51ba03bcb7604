/** The boundary cases of part 4 and of promises 10, 11, 17, 18: ten ERRORS, bits of REGISTERS, SERVICE. */
public final class StatusBoundsTest {
    private static final int BAD = GaugeHouse.BAD;

    public static void main(String[] args) {
        calls();
        tenErrors();
        eleventhErrorBits();
        errorsReadBelowTen();
        bitsOfErrors();
        boundsOfEnables();
        fifteenBits();
        positiveAndNegative();
        presets();
        questionable();
        statusBits();
        oneByteOfOutput();
        conditionsTold();
        serviceEnable();
        serviceComesAndGoes();
        serviceBehindEachUnit();
        serviceBehindByteThatDoesNotCome();
        outputGoneBehindByteThatDoesNotCome();
        serviceOfFour();
        completeAsNothingIsPending();
        Bench.end();
    }

    private static final int[] FAR = {Integer.MIN_VALUE, Integer.MAX_VALUE, -1, 99};

    /** "BAD" of poll, register, error; "no ERRORS" */
    private static void calls() {
        GaugeHouse x = Bench.with(0, 2).house;
        for (int i : FAR) {
            Bench.due("poll(" + i + ")", x.poll(i), BAD);
            Bench.due("register(" + i + ", 0, 0)", x.register(i, 0, 0), BAD);
            Bench.due("register(0, " + i + ", 0)", x.register(0, i, 0), BAD);
            Bench.due("register(0, 0, " + i + ")", x.register(0, 0, i), BAD);
            Bench.due("error(" + i + ", 0)", x.error(i, 0), BAD);
            Bench.due("error(0, " + i + ")", x.error(0, i), BAD);
        }
        Bench.due("poll(2)", x.poll(2), BAD);
        Bench.due("poll(1)", x.poll(1), 0);
        Bench.due("error(2, 0)", x.error(2, 0), BAD);
        Bench.due("register(2, 0, 0)", x.register(2, 0, 0), BAD);
        for (int which = 0; which < 3; which++) {
            for (int part = 0; part < 5; part++) {
                int due = which < 2 && part == 1 ? 32767 : which == 2 && part == 0 ? 128 : 0;
                Bench.due("register(1, " + which + ", " + part + ")", x.register(1, which, part), due);
            }
            Bench.due("register(1, " + which + ", 5)", x.register(1, which, 5), BAD);
        }
        Bench.due("register(1, 3, 0)", x.register(1, 3, 0), BAD);
        for (int k = 0; k < 3; k++) {
            Bench.due("error(0, " + k + ")", x.error(0, k), BAD);
            x.take(0);
            Bench.due("error(0, " + k + ")", x.error(0, k), -420);
            Bench.due("error(0, " + (k + 1) + ")", x.error(0, k + 1), BAD);
        }
    }

    private static Bench withErrors(int n) {
        Bench b = Bench.with(0);
        b.tell(0, "*CLS");
        for (int k = 0; k < n; k++) b.tell(0, "*ESE 999");
        Bench.due("ERRORS", b.house.about(0, 3), n);
        return b;
    }

    /** "ERRORS (10; each is put behind; with the 11th the last one becomes -350 ..)" */
    private static void tenErrors() {
        for (int n = 8; n <= 10; n++) {
            Bench b = withErrors(n);
            b.tell(0, "FOO");
            Bench.due("ERRORS", b.house.about(0, 3), Math.min(10, n + 1));
            Bench.due("the last", b.house.error(0, Math.min(9, n)), n < 10 ? -113 : -350);
            Bench.due("the one before", b.house.error(0, Math.min(8, n - 1)), -222);
            Bench.due("none beyond", b.house.error(0, Math.min(10, n + 1)), BAD);
        }
        Bench b = withErrors(10);
        for (int k = 0; k < 5; k++) b.tell(0, "FOO");
        Bench.due("more of them", b.house.about(0, 3), 10);
        for (int k = 0; k < 10; k++) Bench.due("error(0, " + k + ")", b.house.error(0, k), k < 9 ? -222 : -350);
        Bench.due("COUNt", b.ask(0, "SYST:ERR:COUN?"), "10\n");
    }

    /** "which sets 8; the bit of its own is set, too" */
    private static void eleventhErrorBits() {
        String[] messages = {"FOO", "*ESE 999", "*IDN?;*TST?"};
        int[] bits = {32, 16, 4};
        for (int k = 0; k < 3; k++) {
            Bench b = withErrors(9);
            b.ask(0, "*ESR?");
            b.ask(0, messages[k]);
            Bench.due("the tenth by " + messages[k], b.house.register(0, 2, 0), bits[k]);
            b.ask(0, "*ESR?");
            b.ask(0, messages[k]);
            Bench.due("the eleventh by " + messages[k], b.house.register(0, 2, 0), 8 + bits[k]);
            b.ask(0, "*ESR?");
            b.ask(0, messages[k]);
            Bench.due("the twelfth by " + messages[k], b.house.register(0, 2, 0), 8 + bits[k]);
        }
    }

    /** "are read the eldest first"; "the eldest ERROR, or 0" */
    private static void errorsReadBelowTen() {
        Bench b = Bench.with(0);
        b.tell(0, "FOO");
        b.tell(0, "*ESE 999");
        Bench.due("read", b.ask(0, "SYST:ERR:COUN?;NEXT?;COUN?;NEXT?;COUN?;NEXT?;COUN?"), "2;-113;1;-222;0;0;0\n");
        Bench c = withErrors(10);
        c.tell(0, "FOO");
        Bench.due("one is read", c.ask(0, "SYST:ERR?"), "-222\n");
        c.tell(0, "BAR");
        Bench.due("behind -350 there is room", c.house.error(0, 9), -113);
        Bench.due("-350 stays", c.house.error(0, 8), -350);
        c.tell(0, "BAR");
        Bench.due("an eleventh again", c.house.error(0, 9), -350);
    }

    /** "4 a QUERY ERROR (-400 to -499), 8 another one's, 16 -200 to -299, 32 -100 to -199" */
    private static void bitsOfErrors() {
        String[] messages = {"$", "I (", "*TRG", "FETC?", "RANG 7", "TRAC:DATA #10", "*IDN?;*TST?"};
        int[] codes = {-101, -171, -211, -230, -222, -221, -440};
        int[] bits = {32, 32, 16, 16, 16, 16, 4};
        for (int k = 0; k < messages.length; k++) {
            Bench b = Bench.with(1);
            b.ask(0, "*ESR?");
            b.tell(0, messages[k]);
            Bench.due("ERROR of " + messages[k], b.house.error(0, 0), codes[k]);
            Bench.due("EVENT of " + messages[k], b.house.register(0, 2, 0), bits[k]);
        }
        Bench b = Bench.with(0);
        Bench.due("it was made", b.house.register(0, 2, 0), 128);
        b.house.take(0);
        Bench.due("-420", b.house.register(0, 2, 0), 132);
        b.tell(0, "*CLS;*TST?");
        b.tell(0, "*TST?");
        Bench.due("-410", b.house.register(0, 2, 0), 4);
    }

    private static void told(String header, int least, int greatest, int which, int part) {
        Bench b = Bench.with(0);
        int[] good = {least, greatest, least + 1, greatest - 1};
        for (int v : good) {
            Bench.due("errors of " + header + v, b.errorsOf(0, header + v), "");
            Bench.due("set by " + header + v, b.house.register(0, which, part), v);
        }
        Bench.due("just below", b.errorsOf(0, header + (least - 1)), "-222");
        Bench.due("just above", b.errorsOf(0, header + (greatest + 1)), "-222");
        Bench.due("rounded above", b.errorsOf(0, header + greatest + ".5"), "-222");
        Bench.due("rounded below", b.errorsOf(0, header + "-0.5"), "-222");
        Bench.due("it stays", b.house.register(0, which, part), greatest - 1);
        Bench.due("rounded within", b.errorsOf(0, header + greatest + ".4999"), "");
        Bench.due("the greatest", b.house.register(0, which, part), greatest);
        Bench.due("rounded within", b.errorsOf(0, header + "-0.4999"), "");
        Bench.due("the least", b.house.register(0, which, part), least);
    }

    /** "0 32767"; "*ESE n (0 to 255)" */
    private static void boundsOfEnables() {
        String[] names = {"OPER", "QUES"};
        for (int w = 0; w < 2; w++) {
            told("STAT:" + names[w] + ":ENAB ", 0, 32767, w, 4);
            told("STAT:" + names[w] + ":PTR ", 0, 32767, w, 1);
            told("STAT:" + names[w] + ":NTR ", 0, 32767, w, 2);
        }
        told("*ESE ", 0, 255, 2, 1);
    }

    private static void fifteenBits() {
        Bench b = Bench.with(0);
        for (int k = 0; k < 15; k++) {
            b.tell(0, "STAT:OPER:ENAB " + (1 << k));
            Bench.due("bit " + k, b.house.register(0, 0, 4), 1 << k);
        }
        b.tell(0, "STAT:OPER:ENAB " + (1 << 15));
        Bench.due("a sixteenth", b.errors(0), "-222");
        Bench.due("it stays", b.house.register(0, 0, 4), 1 << 14);
    }

    /** "a bit of CONDITION that comes sets that of EVENT, if POSITIVE has it; one that goes, if NEGATIVE has it" */
    private static void positiveAndNegative() {
        for (int set = 0; set < 4; set++) {
            Bench b = Bench.with(1);
            b.tell(0, "STAT:OPER:PTR " + (set & 1) * 16 + ";NTR " + (set >> 1) * 16);
            b.tell(0, "INIT");
            Bench.due("CONDITION", b.house.register(0, 0, 0), 16);
            Bench.due("EVENT as it comes", b.house.register(0, 0, 3), (set & 1) * 16);
            b.tell(0, "STAT:OPER?");
            b.house.tick(1);
            Bench.due("CONDITION", b.house.register(0, 0, 0), 0);
            Bench.due("EVENT as it goes", b.house.register(0, 0, 3), (set >> 1) * 16);
        }
        Bench b = Bench.with(1);
        b.tell(0, "STAT:OPER:PTR 32751;NTR 32751;:INIT");
        b.house.tick(1);
        Bench.due("all bits but one", b.house.register(0, 0, 3), 0);
        b.tell(0, "STAT:OPER:NTR 0;PTR 0;:INIT;:STAT:OPER:PTR 16");
        Bench.due("a filter that comes later", b.house.register(0, 0, 3), 0);
    }

    /** "PRESET: POSITIVE all, NEGATIVE, ENABLE 0 (so at first)" */
    private static void presets() {
        Bench b = Bench.with(1);
        b.tell(0, "INIT;:STAT:OPER:PTR 0;NTR 32767;ENAB 32767;:STAT:QUES:PTR 0;NTR 32767;ENAB 32767;*ESE 255;*SRE 255;:STAT:PRES");
        int[] due = {16, 32767, 0, 16, 0, 0, 32767, 0, 0, 0};
        for (int k = 0; k < 10; k++) Bench.due("part " + k, b.house.register(0, k / 5, k % 5), due[k]);
        Bench.due("*ESE stays", b.house.register(0, 2, 1), 255);
        Bench.due("*SRE stays", b.house.register(0, 2, 3), 191);
    }

    /** "1 the latest READING was OVER, 512 it FAILS" */
    private static void questionable() {
        Bench b = Bench.metering(1000);
        b.tell(0, "CALC:LIM:LOW 1;UPP 1;STAT 1");
        int[] a = {1000, 1001, 999, 1000, -1000, -1001, 1000};
        int[] due = {0, 513, 512, 0, 512, 513, 0};
        for (int k = 0; k < a.length; k++) {
            b.house.signal(0, 0, a[k], 0, 1);
            b.tell(0, "INIT");
            Bench.due("as it was till it is made", b.house.register(0, 1, 0), k == 0 ? 0 : due[k - 1]);
            b.house.tick(1);
            Bench.due("CONDITION of " + a[k], b.house.register(0, 1, 0), due[k]);
        }
        Bench.due("EVENT", b.house.register(0, 1, 3), 513);
        b.tell(0, "*RST");
        Bench.due("*RST makes no READING", b.house.register(0, 1, 0), 0);
    }

    /** "THE STATUS byte: 4 .. 8 .. 16 .. 32 .. 128"; "64: MASTER" */
    private static void statusBits() {
        String[] makers = {"FOO", "STAT:QUES:ENAB 1;:INIT", "*TST?", "*ESE 128", "STAT:OPER:ENAB 16;:INIT"};
        int[] bits = {4, 8, 16, 32, 128};
        for (int k = 0; k < 5; k++) {
            Bench b = Bench.metering(2000);
            b.tell(0, makers[k]);
            b.house.tick(1);
            Bench.due("STATUS by " + makers[k], b.house.register(0, 2, 2), bits[k]);
            Bench.due("poll", b.house.poll(0), bits[k]);
            Bench c = Bench.metering(2000);
            c.tell(0, "*SRE " + bits[k]);
            c.tell(0, makers[k]);
            c.house.tick(1);
            Bench.due("with MASTER", c.house.register(0, 2, 2), bits[k] + 64);
            Bench.due("SERVICE is asked", c.house.register(0, 2, 4), 1);
            Bench.due("poll", c.house.poll(0), bits[k] + 64);
            Bench.due("poll again", c.house.poll(0), bits[k]);
            Bench.due("MASTER stays", c.house.register(0, 2, 2), bits[k] + 64);
            Bench d = Bench.metering(2000);
            d.tell(0, "*SRE " + (255 - bits[k]));
            d.tell(0, makers[k]);
            d.house.tick(1);
            Bench.due("none in common", d.house.register(0, 2, 2), bits[k]);
            Bench.due("SERVICE is not asked", d.house.service(), 0);
        }
        Bench b = Bench.with(0);
        b.tell(0, "*ESE 127");
        Bench.due("EVENT without its ENABLE", b.house.register(0, 2, 2), 0);
        b.tell(0, "*ESE 255");
        Bench.due("EVENT with its ENABLE", b.house.register(0, 2, 2), 32);
    }

    /** "16 OUTPUT is not empty" */
    private static void oneByteOfOutput() {
        Bench b = Bench.with(0);
        for (int k = 0; k < 3; k++) b.part(0, "*TST?;");
        for (int left = 5; left >= 0; left--) {
            Bench.due("OUTPUT", b.house.about(0, 2), left);
            Bench.due("STATUS with " + left, b.house.register(0, 2, 2), left > 0 ? 16 : 0);
            Bench.due("poll with " + left, b.house.poll(0), left > 0 ? 16 : 0);
            if (left > 0) b.house.take(0);
        }
        Bench.due("*STB? of one byte", Bench.with(0).ask(0, "*STB?;*STB?"), "0;16\n");
        Bench c = Bench.with(0);
        c.tell(0, "*SRE 16");
        c.part(0, "*TST?;");
        Bench.due("SERVICE of one byte", c.house.service(), 1);
        c.house.take(0);
        Bench.due("none is left", c.house.service(), 0);
    }

    private static void conditionsTold() {
        Bench b = Bench.metering(1001);
        b.tell(0, "CALC:LIM:STAT 1;:INIT:CONT 1");
        b.house.tick(1);
        Bench.due("each its own", b.ask(0, "STAT:OPER:COND?;:STAT:QUES:COND?"), "16;513\n");
        Bench.due("each its own", b.ask(0, "STAT:QUES?;:STAT:OPER?;:STAT:QUES?;:STAT:OPER?"), "513;16;0;0\n");
    }

    /** "*SRE n (bit 64 is not looked at)" */
    private static void serviceEnable() {
        Bench b = Bench.with(0);
        int[] n = {0, 1, 63, 64, 65, 127, 128, 191, 192, 255};
        for (int v : n) {
            Bench.due("errors of *SRE " + v, b.errorsOf(0, "*SRE " + v), "");
            Bench.due("SERVICE ENABLE", b.house.register(0, 2, 3), v & ~64);
            Bench.due("*SRE?", b.ask(0, "*SRE?"), (v & ~64) + "\n");
        }
        Bench.due("just above", b.errorsOf(0, "*SRE 256"), "-222");
        Bench.due("just below", b.errorsOf(0, "*SRE -1"), "-222");
        Bench.due("it stays", b.house.register(0, 2, 3), 191);
        Bench.due("rounded within", b.errorsOf(0, "*SRE 255.4"), "");
    }

    /** "SERVICE is asked when a bit of STATUS that is ENABLED comes .. not any more when it is POLLED, or none is left" */
    private static void serviceComesAndGoes() {
        Bench b = Bench.with(0);
        b.tell(0, "*SRE 4");
        Bench.due("none", b.house.service(), 0);
        b.tell(0, "FOO");
        Bench.due("the first ERROR", b.house.service(), 1);
        b.house.poll(0);
        b.tell(0, "FOO");
        Bench.due("the second is no bit that comes", b.house.service(), 0);
        Bench.due("both are read", b.ask(0, "SYST:ERR?;ERR?"), "-113;-113\n");
        b.tell(0, "FOO");
        Bench.due("one comes anew", b.house.service(), 1);
        b.tell(0, "FOO");
        b.tell(0, "SYST:ERR?");
        Bench.due("one is left", b.house.service(), 1);
        b.tell(0, "SYST:ERR?;ERR?;ERR?");
        Bench.due("none is left", b.house.service(), 0);
        Bench.due("poll then", b.house.poll(0), 16);
    }

    /** "looked at behind each .. UNIT": OUTPUT has one byte behind the second one alone, and none behind the byte with which both are done. */
    private static void serviceBehindEachUnit() {
        Bench b = Bench.with(0);
        b.tell(0, "*ESE 10;*SRE 20;FOO");
        Bench.due("by the ERROR", b.house.poll(0), 68);
        b.part(0, "*ESE?;" + "*TST?;".repeat(29) + "\n");
        Bench.due("by OUTPUT", b.house.poll(0), 84);
        b.part(0, " ".repeat(67) + "*ESE 2;*TST?\n");
        Bench.due("INPUT", b.house.about(0, 1), 80);
        Bench.due("nothing came", b.house.poll(0), 20);
        b.part(0, " ");
        Bench.due("DEADLOCKED", b.house.error(0, 1), -430);
        Bench.due("INTERRUPTED", b.house.error(0, 2), -410);
        Bench.due("OUTPUT", b.house.about(0, 2), 0);
        Bench.due("OUTPUT was not empty behind a UNIT", b.house.poll(0), 68);
    }

    /** A METER with a RUN that sends an A; SERVICE is ENABLED so, and not asked; OUTPUT is full and HOLDS the 10. */
    private static Bench heldByOutput(String script, int enabled) {
        Bench b = Bench.metering(500);
        b.test(script);
        b.part(0, "*ESE 128;*SRE " + enabled + ";:TRIG:TIM 10\n");
        b.part(0, "TRIG:TIM?" + ";*TST?".repeat(29) + "\n");
        Bench.due("OUTPUT", b.house.about(0, 2), 60);
        Bench.due("HELD by", b.house.about(0, 6), 1);
        b.house.poll(0);
        return b;
    }

    /**
     * "looked at behind each byte that is sent": also one that does not come. It is DEADLOCKED, READ? HOLDS then, and check
     * takes the ERROR away, while another ENABLED bit is left.
     */
    private static void serviceBehindByteThatDoesNotCome() {
        String script = "try { send 0 'A'; } fail 2 { try { check 0; } fail 4 { } }";
        for (int blanks = 73; blanks <= 74; blanks++) {
            Bench b = heldByOutput(script, 36);
            b.part(0, "READ?;" + " ".repeat(blanks));
            Bench.due("INPUT", b.house.about(0, 1), 6 + blanks);
            Bench.due("not asked", b.house.service(), 0);
            Bench.due("the RUN", b.house.run(0, 100), 0);
            Bench.due("STEPS", b.house.ran(0), blanks < 74 ? 2 : 4);
            Bench.due("HELD by", b.house.about(0, 6), blanks < 74 ? 1 : 2);
            Bench.due("ERRORS", b.house.about(0, 3), 0);
            Bench.due("SERVICE", b.house.service(), blanks < 74 ? 0 : 1);
            Bench.due("bit 32 is left", b.house.poll(0), blanks < 74 ? 48 : 96);
        }
        Bench b = heldByOutput(script, 4);
        b.part(0, "READ?;" + " ".repeat(74));
        b.house.run(0, 100);
        Bench.due("none is left behind the call", b.house.service(), 0);
    }

    /** The same of OUTPUT: a DEADLOCK empties it, which is seen behind the byte that does not come, so it comes anew in the TICK. */
    private static void outputGoneBehindByteThatDoesNotCome() {
        Bench b = heldByOutput("try { send 0 'A'; } fail 2 { wait 1; }", 16);
        b.part(0, "READ?;" + " ".repeat(74));
        Bench.due("not asked", b.house.service(), 0);
        Bench.due("the RUN", b.house.run(0, 100), 0);
        Bench.due("what is READ", b.house.about(0, 2), 5);
        Bench.due("SERVICE", b.house.service(), 1);
    }

    /** "INSTRUMENTS that ask for SERVICE, as bits" */
    private static void serviceOfFour() {
        Bench b = Bench.with(0, 1, 2, 0);
        int bits = 0;
        for (int k = 3; k >= 0; k--) {
            b.tell(k, "*SRE 16;*TST?");
            bits |= 1 << k;
            Bench.due("service()", b.house.service(), bits);
        }
        for (int k = 0; k < 4; k++) {
            b.house.poll(k);
            bits &= ~(1 << k);
            Bench.due("service()", b.house.service(), bits);
        }
    }

    /** "*OPC: COMPLETE as soon as nothing is PENDING" */
    private static void completeAsNothingIsPending() {
        Bench b = Bench.with(1);
        b.tell(0, "*CLS;:APER 10;:TRIG:DEL 20;:INIT;*OPC");
        b.house.tick(29);
        Bench.due("PENDING", b.house.register(0, 2, 0), 0);
        b.house.tick(1);
        Bench.due("COMPLETE", b.house.register(0, 2, 0), 1);
        b.tell(0, "*CLS");
        b.house.tick(40);
        Bench.due("just once", b.house.register(0, 2, 0), 0);
        Bench p = Bench.with(0);
        p.tell(0, "*CLS;*OPC");
        Bench.due("of a PLAIN one at once", p.house.register(0, 2, 0), 1);
    }
}
