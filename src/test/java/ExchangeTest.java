/** Promises 6 to 9, part 3 of the terms: INPUT and OUTPUT, what HOLDS, and the ERRORS of the exchange. */
public final class ExchangeTest {
    public static void main(String[] args) {
        instruments();
        refusals();
        answers();
        unterminated();
        interrupted();
        heldByOutput();
        deadlocked();
        deadlockedEnd();
        interruptedBehindDeadlock();
        heldByPending();
        overflow();
        noRoomWhilePending();
        identified();
        clearing();
        Bench.end();
    }

    private static String tests(int n) {
        StringBuilder s = new StringBuilder();
        for (int k = 0; k < n; k++) s.append(k > 0 ? ";" : "").append("*TST?");
        return s.toString();
    }

    private static String zeros(int n) {
        return tests(n).replace("*TST?", "0");
    }

    private static void instruments() {
        Bench b = new Bench();
        Bench.due("instrument(-1)", b.house.instrument(-1), -1);
        Bench.due("instrument(3)", b.house.instrument(3), -1);
        for (int k = 0; k < 4; k++) Bench.due("instrument", b.house.instrument(k % 3), k);
        Bench.due("a fifth", b.house.instrument(0), -3);
        Bench.due("BAD ahead of FULL", b.house.instrument(7), -1);
        Bench.due("count(2)", b.house.count(2), 4);
        for (int k = 0; k < 4; k++) {
            Bench.due("KIND", b.house.about(k, 0), k % 3);
            Bench.due("*IDN?", b.ask(k, "*idn?"), "BENCH," + k % 3 + "," + k + ",0\n");
            for (int w = 1; w < 12; w++) Bench.due("about(" + k + ", " + w + ") at first", b.house.about(k, w), 0);
        }
        Bench.due("about(0, 12)", b.house.about(0, 12), -1);
        Bench.due("about(0, -1)", b.house.about(0, -1), -1);
        Bench.due("about(4, 0)", b.house.about(4, 0), -1);
        Bench.due("about(-1, 0)", b.house.about(-1, 0), -1);
    }

    private static void refusals() {
        Bench b = Bench.with(0);
        Bench.due("send(1)", b.tell(1, "x"), -1);
        Bench.due("send(-1)", b.tell(-1, "x"), -1);
        Bench.due("take(1)", b.house.take(1), -1);
        Bench.due("take(-1)", b.house.take(-1), -1);
        Bench.due("clear(1)", b.house.clear(1), -1);
        Bench.due("clear(-1)", b.house.clear(-1), -1);
        Bench.due("send without bytes", b.tell(0, ""), 0);
        b.part(0, "*ESE 5");
        b.tell(0, "");
        Bench.due("tells no END", b.house.about(0, 1), 6);
    }

    private static void answers() {
        Bench b = Bench.with(0);
        Bench.due("parted by ;", b.ask(0, "*TST?;*ESE?;*SRE?;*OPC?"), "0;0;0;1\n");
        Bench.due("what is told puts nothing", b.ask(0, "*ESE 1;*SRE 0"), "");
        Bench.due("of two MESSAGES the first is INTERRUPTED", b.ask(0, "*TST?\n*ESE?\n"), "1\n");
        b.part(0, "*TST?;");
        Bench.due("done as its end is there", b.house.about(0, 2), 1);
        Bench.due("its bytes are gone", b.house.about(0, 1), 0);
        Bench.due("take", b.house.take(0), '0');
        b.part(0, "*TST?;");
        Bench.due("; ahead of it, though that was taken", b.take(0), ";0");
        b.part(0, "  ");
        b.tell(0, " ");
        Bench.due("10 as the END is done", b.take(0), "\n");
        b.part(0, "*TST?;");
        b.take(0);
        b.tell(0, "FOO");
        Bench.due("10 behind an ERROR, too", b.take(0), "\n");
        int taken = b.house.count(6);
        b.ask(0, "*TST?");
        Bench.due("bytes TAKEN", b.house.count(6) - taken, 2);
        b.house.take(0);
        Bench.due("none was TAKEN", b.house.count(6) - taken, 2);
    }

    private static void unterminated() {
        Bench b = Bench.with(0);
        Bench.due("take of nothing", b.house.take(0), -5);
        Bench.due("ERROR", b.house.error(0, 0), -420);
        b.part(0, "*ESE 3;*TS");
        Bench.due("take ahead of the END", b.house.take(0), -5);
        Bench.due("INPUT is gone", b.house.about(0, 1), 0);
        b.tell(0, "*TST?");
        Bench.due("the MESSAGE is begun anew", b.take(0), "0\n");
        b.part(0, "FOO;");
        b.house.take(0);
        Bench.due("also one that is passed over", b.ask(0, "*TST?"), "0\n");
        b.part(0, "DISP:TEXT 'a';");
        b.house.take(0);
        b.tell(0, "*CLS");
        b.tell(0, "TEXT 'b'");
        Bench.due("the path is gone", b.errors(0), "-113");
        b.part(0, "*TST?;");
        b.take(0);
        b.house.take(0);
        Bench.due("no ; ahead", b.ask(0, "*TST?"), "0\n");
    }

    private static void interrupted() {
        String[] firsts = {"*CLS", " ", "\n", "x"};
        for (String s : firsts) {
            Bench b = Bench.with(0);
            b.tell(0, "*TST?");
            b.part(0, s);
            Bench.due("INTERRUPTED by " + s, b.house.register(0, 2, 0) & 4, 4);
            Bench.due("OUTPUT is empty", b.house.about(0, 2), 0);
        }
        Bench b = Bench.with(0);
        b.part(0, "*TST?;");
        b.tell(0, "*TST?");
        Bench.due("within a MESSAGE not", b.house.about(0, 3), 0);
        b.house.take(0);
        b.tell(0, "*ESE?");
        Bench.due("with what is left", b.house.error(0, 0), -410);
        Bench.due("what comes is done", b.take(0), "0\n");
        b.tell(0, "");
        Bench.due("no byte does not", b.house.about(0, 3), 1);
    }

    private static void heldByOutput() {
        Bench b = Bench.with(0);
        Bench.due("all come", b.part(0, tests(30) + ";"), 180);
        Bench.due("OUTPUT", b.house.about(0, 2), 59);
        Bench.due("nothing HOLDS", b.house.about(0, 6), 0);
        b.part(0, "*TST?");
        Bench.due("the UNIT has not ended", b.house.about(0, 6), 0);
        b.part(0, ";*ESR?;");
        Bench.due("OUTPUT HOLDS", b.house.about(0, 6), 1);
        Bench.due("its bytes stay", b.house.about(0, 1), 12);
        Bench.due("UNITS done", b.house.count(5), 30);
        Bench.due("take", b.house.take(0), '0');
        Bench.due("it goes on, and the next is HELD", b.house.about(0, 2), 60);
        Bench.due("UNITS done", b.house.count(5), 31);
        Bench.due("its bytes stay", b.house.about(0, 1), 6);
        Bench.due("what it does is done once", b.house.register(0, 2, 0), 0);
        for (int k = 0; k < 3; k++) b.house.take(0);
        Bench.due("still HELD", b.house.about(0, 1), 6);
        b.house.take(0);
        Bench.due("no more", b.house.about(0, 1), 0);
        Bench.due("the answers", b.take(0), zeros(31).substring(5) + ";128");
        b.tell(0, "*TST?");
        Bench.due("the end", b.take(0), ";0\n");
        b.tell(0, tests(31) + ";");
        b.take(0);
        Bench.due("ERRORS", b.house.about(0, 3), 0);
    }

    private static void deadlocked() {
        Bench b = Bench.with(0);
        b.part(0, tests(30) + ";");
        Bench.due("80 bytes of INPUT", b.part(0, "*ESR?;*ESE 7;*TST?;" + "*SRE 9;*TST?;                                               ;"), 80);
        Bench.due("INPUT", b.house.about(0, 1), 80);
        Bench.due("OUTPUT HOLDS", b.house.about(0, 6), 1);
        int units = b.house.count(5);
        Bench.due("another byte", b.part(0, "*"), 1);
        Bench.due("DEADLOCKED", b.house.error(0, 0), -430);
        Bench.due("OUTPUT is emptied, nothing is put", b.house.about(0, 2), 0);
        Bench.due("it goes on", b.house.register(0, 2, 1), 7);
        Bench.due("it goes on", b.house.register(0, 2, 3), 9);
        Bench.due("UNITS done, the HELD one, too", b.house.count(5) - units, 5);
        Bench.due("INPUT", b.house.about(0, 1), 1);
        b.tell(0, "TST?");
        Bench.due("nor the 10", b.house.about(0, 2), 0);
        Bench.due("the next MESSAGE", b.ask(0, "*TST?"), "0\n");
    }

    private static void deadlockedEnd() {
        Bench b = Bench.with(0);
        b.tell(0, tests(29) + ";*ESR?");
        Bench.due("OUTPUT", b.house.about(0, 2), 57);
        b.house.clear(0);
        b.tell(0, "*CLS;" + tests(27) + ";*ESR?;*ESE 100;*ESE?;*TST?");
        Bench.due("OUTPUT", b.take(0), zeros(28) + ";100;0\n");
        b.tell(0, "*ESE 10;*ESE?;" + tests(29));
        Bench.due("OUTPUT is full with answers", b.house.about(0, 2), 60);
        Bench.due("the 10 HOLDS", b.house.about(0, 6), 1);
        Bench.due("INPUT is empty", b.house.about(0, 1), 0);
        b.part(0, "*T");
        Bench.due("no INTERRUPTED ahead of it", b.house.about(0, 3), 0);
        Bench.due("TAKEN", b.house.take(0), '1');
        Bench.due("the 10 is put", b.house.about(0, 6), 0);
        b.tell(0, "ST?");
        Bench.due("still no INTERRUPTED", b.house.about(0, 3), 0);
        Bench.due("the next one HOLDS", b.house.about(0, 6), 1);
        Bench.due("all answers", b.take(0), "0;" + zeros(29) + "\n0\n");
    }

    private static void interruptedBehindDeadlock() {
        Bench b = Bench.with(0);
        b.tell(0, "*ESE 10;*ESE?;" + tests(29));
        Bench.due("80 bytes of a whole MESSAGE", b.part(0, " ".repeat(74) + "*TST?\n"), 80);
        Bench.due("the 10 HOLDS", b.house.about(0, 6), 1);
        Bench.due("another byte", b.part(0, "*"), 1);
        Bench.due("DEADLOCKED", b.house.error(0, 0), -430);
        Bench.due("INTERRUPTED, as all before is done then", b.house.error(0, 1), -410);
        Bench.due("no other", b.house.about(0, 3), 2);
        Bench.due("OUTPUT", b.house.about(0, 2), 0);
        Bench.due("INPUT", b.house.about(0, 1), 1);
    }

    private static void heldByPending() {
        Bench b = Bench.with(1);
        b.tell(0, "READ?;*TST?");
        Bench.due("it WAITS", b.house.take(0), -4);
        Bench.due("PENDING HOLDS", b.house.about(0, 6), 2);
        Bench.due("its bytes stay", b.house.about(0, 1), 11);
        b.part(0, "*ESE?\n");
        Bench.due("what comes waits, too", b.house.about(0, 1), 17);
        int units = b.house.count(5);
        b.house.tick(1);
        Bench.due("UNITS done", b.house.count(5) - units, 3);
        Bench.due("all answers", b.take(0), "9.91E37;0\n0\n");
        b.tell(0, "APER 2;:INIT;*OPC?;*WAI;*TST?");
        Bench.due("*OPC? is HELD", b.house.take(0), -4);
        b.house.tick(1);
        Bench.due("*OPC? is HELD", b.house.take(0), -4);
        b.house.tick(1);
        Bench.due("no more", b.take(0), "1;0\n");
        b.tell(0, "INIT;*WAI;*TST?");
        Bench.due("*WAI is HELD", b.house.about(0, 1), 10);
        b.house.tick(2);
        Bench.due("no more", b.take(0), "0\n");
        b.tell(0, "INIT:CONT ON;*WAI;*OPC?");
        Bench.due("CONTINUOUS is not PENDING", b.take(0), "1\n");
        Bench s = Bench.with(2);
        s.tell(0, "ARM:SOUR BUS;:INIT;*WAI;FOO;TRAC:DATA #15a\n*ESE 5\n*ESE?\n");
        Bench.due("*WAI is HELD", s.house.about(0, 6), 2);
        s.house.trigger(0);
        s.house.tick(1);
        Bench.due("passed over up to the first 10, and no farther", s.take(0), "5\n");
        s.tell(0, "INIT;:ROUT:CLOS (@1);OPEN (@1);:DISP:TEXT 'a';:STAT:PRES;*CLS;*ESE 1;*SRE 0;*OPC;*SAV 0;:RANG 1;:ROUT:CLOS? (@1);*ESR?;*TST?;*SRE?");
        Bench.due("nothing else is HELD", s.take(0), "0;0;0;0\n");
        Bench.due("PENDING", s.house.about(0, 5), 1);
        b.tell(0, "READ?");
        Bench.due("READ? then", b.house.error(0, 0), -221);
        b.tell(0, "INIT");
        Bench.due("INITiate then", b.house.error(0, 1), -213);
    }

    private static void overflow() {
        Bench b = Bench.with(0);
        String spaces = " ".repeat(77);
        Bench.due("80 bytes", b.part(0, "*TST?;" + "I " + spaces + "1"), 86);
        Bench.due("INPUT is full", b.house.about(0, 1), 80);
        Bench.due("no ERROR", b.house.about(0, 3), 0);
        int units = b.house.count(5);
        Bench.due("the byte comes", b.part(0, ";*ESE 5;"), 8);
        Bench.due("ERROR", b.house.error(0, 0), -223);
        Bench.due("one", b.house.about(0, 3), 1);
        Bench.due("INPUT is empty", b.house.about(0, 1), 0);
        b.tell(0, "*ESE 6;x");
        Bench.due("passed over", b.house.register(0, 2, 1), 0);
        Bench.due("none is done", b.house.count(5), units);
        Bench.due("the 10 comes", b.take(0), "0\n");
        b.tell(0, "*ESE 6");
        Bench.due("the next MESSAGE", b.house.register(0, 2, 1), 6);
        b.tell(0, "*CLS");
        Bench.due("a UNIT of 80 bytes", b.tell(0, "*ESE" + " ".repeat(75) + "7"), 80);
        Bench.due("is done", b.house.register(0, 2, 1), 7);
        b.tell(0, "*ESE" + " ".repeat(75) + "88");
        Bench.due("one of 81 is not", b.house.register(0, 2, 1), 7);
        Bench.due("ERROR", b.errors(0), "-223");
        b.part(0, "*ESE" + " ".repeat(75) + "8\n*ESE 9\n");
        Bench.due("a 10 as the 81st", b.house.register(0, 2, 1), 9);
        Bench.due("ERROR", b.errors(0), "-223");
        b.part(0, "TRAC:DATA #299" + "\n".repeat(66) + "x\n*ESE 4\n");
        Bench.due("a BLOCK too long", b.house.register(0, 2, 1), 4);
        Bench.due("ERROR", b.errors(0), "-223");
    }

    private static void noRoomWhilePending() {
        Bench b = Bench.with(1);
        b.tell(0, "INIT;*WAI");
        Bench.due("HELD", b.house.about(0, 1), 4);
        Bench.due("just what has room comes", b.tell(0, ";".repeat(100)), 76);
        Bench.due("then none", b.tell(0, "\n"), 0);
        Bench.due("no ERROR", b.house.about(0, 3), 0);
        b.house.tick(1);
        Bench.due("it goes on", b.house.about(0, 1), 0);
        Bench.due("again", b.tell(0, "*TST?"), 5);
        Bench.due("the MESSAGE had not ended", b.take(0), "0\n");
        Bench d = Bench.with(1);
        d.part(0, "*ESE 10;*ESE?;" + tests(29) + "\n");
        d.tell(0, "INIT;*WAI;" + " ".repeat(70));
        Bench.due("INPUT is full", d.house.about(0, 1), 80);
        Bench.due("DEADLOCKED, then PENDING", d.part(0, "*CLS\n"), 5);
        Bench.due("ERROR", d.house.error(0, 0), -430);
        Bench.due("PENDING HOLDS", d.house.about(0, 6), 2);
    }

    private static void identified() {
        Bench b = Bench.with(1);
        Bench.due("answers", b.ask(0, "*TST?;*IDN?;*ESE 5;*TST?;FETC?;*IDN?"), "0;BENCH,1,0,0\n");
        Bench.due("what is TOLD is done", b.house.register(0, 2, 1), 5);
        Bench.due("ERRORS", b.errors(0), "-440 -440 -440");
        Bench.due("another ERROR by its data", b.errorsOf(0, "*IDN?;RANG? 1"), "-104");
        Bench.due("another ERROR by its HEADER", b.errorsOf(0, "*IDN?;*FOO?"), "-113");
        Bench.due("none else", b.errorsOf(0, "*IDN?;READ?;*TST?;FETC?"), "-440 -440 -440");
        Bench.due("it is not done", b.house.about(0, 4), 0);
        Bench.due("the next MESSAGE", b.errorsOf(0, "*IDN?\n*TST?"), "-410");
    }

    private static void clearing() {
        Bench b = Bench.with(1);
        b.tell(0, "*TST?;*TST?");
        Bench.due("bytes of OUTPUT", b.house.clear(0), 4);
        Bench.due("no INTERRUPTED", b.ask(0, "*TST?"), "0\n");
        b.part(0, "*TST?;*ES");
        Bench.due("bytes of OUTPUT", b.house.clear(0), 1);
        Bench.due("INPUT is empty", b.house.about(0, 1), 0);
        Bench.due("a new MESSAGE", b.ask(0, "*ESE?"), "0\n");
        b.tell(0, "APER 3;:INIT;*OPC;READ?");
        Bench.due("HELD", b.house.about(0, 6), 2);
        int units = b.house.count(5);
        Bench.due("bytes of OUTPUT", b.house.clear(0), 0);
        Bench.due("nothing HOLDS", b.house.about(0, 6), 0);
        Bench.due("the READING goes on", b.house.about(0, 4), 4);
        b.house.tick(3);
        Bench.due("nothing is put", b.house.about(0, 2), 0);
        Bench.due("it was not done", b.house.count(5), units);
        Bench.due("*OPC is forgotten", b.house.register(0, 2, 0), 128);
        b.part(0, "FOO;");
        b.house.clear(0);
        Bench.due("nothing is passed over", b.ask(0, "*ESE?"), "0\n");
        b.part(0, "DISP:TEXT 'a");
        b.house.clear(0);
        Bench.due("no STRING goes on", b.ask(0, "*ESE 5;*ESE?"), "5\n");
    }
}
