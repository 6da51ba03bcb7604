/** The boundary cases of part 3 and of promises 6 to 9: INPUT of 80 bytes, OUTPUT of 60, what HOLDS, and what has no room. */
public final class ExchangeBoundsTest {
    private static final int BAD = GaugeHouse.BAD, FULL = GaugeHouse.FULL;

    public static void main(String[] args) {
        fourInstruments();
        eightyBytes();
        eightyFirstByte();
        eightyFirstByteEnds();
        behindTheEightyFirst();
        roomOfUnitsThatAreDone();
        longStringsAndBlocks();
        nothingIsTooLongWhilePassedOver();
        sixtyBytes();
        theEndHasNoRoom();
        oneTakenMakesRoom();
        deadlockAtTheEightyFirst();
        deadlockMutesOneMessage();
        fullWhilePending();
        fullAsPendingEnds();
        interrupted();
        takenOfNothing();
        waits();
        cleared();
        sentWithoutBytes();
        identifiedLast();
        Bench.end();
    }

    private static String tests(int n) {
        return "*TST?;".repeat(n);
    }

    /** A PLAIN one with so many bytes in OUTPUT, its MESSAGE not at its END. */
    private static Bench withOutput(int n) {
        Bench b = Bench.with(0);
        b.tell(0, "*ESE 10");
        b.part(0, n % 2 == 0 ? "*ESE?;" + tests((n - 2) / 2) : tests((n + 1) / 2));
        Bench.due("OUTPUT", b.house.about(0, 2), n);
        return b;
    }

    private static void room(Bench b, int input, int output, int holds) {
        Bench.due("INPUT", b.house.about(0, 1), input);
        Bench.due("OUTPUT", b.house.about(0, 2), output);
        Bench.due("what HOLDS", b.house.about(0, 6), holds);
    }

    /** "INSTRUMENTS, 4 at most, have a KIND: 0 .. 2"; "BAD; FULL" */
    private static void fourInstruments() {
        GaugeHouse x = new GaugeHouse();
        int[] bad = {-1, 3, Integer.MIN_VALUE, Integer.MAX_VALUE};
        for (int kind : bad) Bench.due("instrument(" + kind + ")", x.instrument(kind), BAD);
        Bench.due("none came", x.count(2), 0);
        for (int k = 0; k < 4; k++) Bench.due("its number", x.instrument(2 - k % 3), k);
        for (int kind = 0; kind < 3; kind++) Bench.due("a fifth", x.instrument(kind), FULL);
        for (int kind : bad) Bench.due("instrument(" + kind + ")", x.instrument(kind), BAD);
        Bench.due("INSTRUMENTS", x.count(2), 4);
        for (int k = 0; k < 4; k++) Bench.due("KIND", x.about(k, 0), 2 - k % 3);
        Bench.due("no fifth", x.about(4, 0), BAD);
    }

    /** "INPUT (80 bytes)" */
    private static void eightyBytes() {
        for (int n = 78; n <= 80; n++) {
            Bench b = Bench.with(0);
            String unit = "*ESE" + " ".repeat(n - 5) + "7";
            Bench.due("bytes that come", b.part(0, unit), n);
            room(b, n, 0, 0);
            Bench.due("ERRORS", b.house.about(0, 3), 0);
            Bench.due("not done", b.house.register(0, 2, 1), 0);
            Bench c = Bench.with(0);
            Bench.due("with the END", c.tell(0, unit), n);
            Bench.due("done", c.house.register(0, 2, 1), 7);
            room(c, 0, 0, 0);
        }
        Bench b = Bench.with(0);
        b.part(0, "*ESE" + " ".repeat(74) + "7;");
        Bench.due("a ; as the 80th", b.house.register(0, 2, 1), 7);
        b.part(0, "*ESE" + " ".repeat(74) + "8\n");
        Bench.due("a 10 as the 80th", b.house.register(0, 2, 1), 8);
        Bench.due("ERRORS", b.house.about(0, 3), 0);
    }

    /** "nothing can be done, as a UNIT has not ended (-223: it is passed over, and all behind it in the MESSAGE)" */
    private static void eightyFirstByte() {
        String[] units = {"*ESE" + " ".repeat(75) + "7", " ".repeat(80), "'" + ";".repeat(79), "#0" + "\n".repeat(78), "I #299" + "\n".repeat(74), "A".repeat(80)};
        for (String unit : units) {
            Bench b = Bench.with(0);
            Bench.due("80 bytes", b.part(0, unit), 80);
            room(b, 80, 0, 0);
            Bench.due("ERRORS", b.house.about(0, 3), 0);
            Bench.due("the byte comes", b.part(0, "7"), 1);
            room(b, 0, 0, 0);
            Bench.due("ERRORS", b.house.about(0, 3), 1);
            Bench.due("ERROR", b.house.error(0, 0), -223);
            Bench.due("it is of 16", b.house.register(0, 2, 0), 128 + 16);
            Bench.due("not done", b.house.register(0, 2, 1), 0);
            Bench.due("all behind it come", b.part(0, ";*ESE 5;'#0".repeat(10)), 110);
            room(b, 0, 0, 0);
            b.part(0, "\n*ESE 6\n");
            Bench.due("the next MESSAGE", b.house.register(0, 2, 1), 6);
            Bench.due("no other ERROR", b.house.about(0, 3), 1);
            Bench c = Bench.with(0);
            Bench.due("81 bytes in one call", c.part(0, unit + "7"), 81);
            Bench.due("ERROR", c.house.error(0, 0), -223);
            room(c, 0, 0, 0);
        }
    }

    private static void eightyFirstByteEnds() {
        String unit = "*ESE" + " ".repeat(75) + "7";
        String[] ends = {"\n", "7", ";"};
        for (String s : ends) {
            Bench b = Bench.with(0);
            if (s.equals("\n")) b.part(0, unit + s);
            else b.tell(0, unit + s);
            Bench.due("ERROR", b.house.error(0, 0), -223);
            Bench.due("not done", b.house.register(0, 2, 1), 0);
            b.tell(0, "*ESE 6");
            Bench.due("the MESSAGE has ended with it", b.house.register(0, 2, 1), 6);
            Bench.due("ERRORS", b.house.about(0, 3), 1);
        }
        Bench b = Bench.with(0);
        b.part(0, unit + ";");
        b.tell(0, "*ESE 6");
        Bench.due("a ; ends it not", b.house.register(0, 2, 1), 0);
    }

    private static void behindTheEightyFirst() {
        Bench b = Bench.with(0);
        b.part(0, "*TST?;*ESE 5;" + "x".repeat(81));
        Bench.due("those before it are done", b.house.register(0, 2, 1), 5);
        Bench.due("ERROR", b.house.error(0, 0), -223);
        b.part(0, ";*TST?;*ESE 6");
        room(b, 0, 1, 0);
        b.part(0, "\n");
        Bench.due("the answer ahead has its 10", b.take(0), "0\n");
        Bench.due("what is behind is not done", b.house.register(0, 2, 1), 5);
    }

    private static void roomOfUnitsThatAreDone() {
        Bench b = Bench.with(0);
        Bench.due("many UNITS", b.part(0, "*ESE 1;".repeat(60) + " ".repeat(80)), 500);
        room(b, 80, 0, 0);
        Bench.due("ERRORS", b.house.about(0, 3), 0);
        Bench.due("with the last byte's END", b.tell(0, ""), 0);
        b.part(0, ";");
        Bench.due("ERROR", b.house.error(0, 0), -223);
        Bench.due("UNITS", b.house.count(5), 60);
    }

    private static void longStringsAndBlocks() {
        Bench b = Bench.with(1);
        b.house.lane(0, 0, 1, 40);
        Bench.due("a BLOCK that fills INPUT", b.tell(0, "TRAC:DATA" + " ".repeat(27) + "#240" + ";".repeat(40)), 80);
        Bench.due("its last byte", b.house.get(0, 0, 1, 39), ';');
        Bench.due("ERRORS", b.house.about(0, 3), 0);
        Bench.due("one more", b.tell(0, "TRAC:DATA" + " ".repeat(28) + "#240" + "x".repeat(40)), 81);
        Bench.due("its last byte", b.house.get(0, 0, 1, 39), ';');
        Bench.due("ERROR", b.errors(0), "-223");
        Bench.due("a STRING that fills INPUT", b.errorsOf(0, "DISP:TEXT '" + "x".repeat(68) + "'"), "-222");
        Bench.due("one more", b.errorsOf(0, "DISP:TEXT '" + "x".repeat(69) + "'"), "-223");
        Bench.due("a NUMBER that fills INPUT", b.errorsOf(0, "RANG " + "0".repeat(75)), "");
        Bench.due("one more", b.errorsOf(0, "RANG " + "0".repeat(76)), "-223");
    }

    /** "(Bytes that are passed over are gone at once.)" */
    private static void nothingIsTooLongWhilePassedOver() {
        Bench b = Bench.with(0);
        Bench.due("all come", b.part(0, "FOO;" + "x".repeat(300)), 304);
        room(b, 0, 0, 0);
        Bench.due("ERRORS", b.errors(0), "-113");
    }

    /** "OUTPUT (60 bytes)"; "What has no room in OUTPUT (with the ;, the 10) HOLDS." */
    private static void sixtyBytes() {
        for (int n = 56; n <= 60; n++) {
            Bench b = withOutput(n);
            b.part(0, "*TST?;");
            boolean fits = n + 2 <= 60;
            room(b, fits ? 0 : 6, fits ? n + 2 : n, fits ? 0 : 1);
            Bench c = withOutput(n);
            c.part(0, "*ESE?;");
            fits = n + 3 <= 60;
            room(c, fits ? 0 : 6, fits ? n + 3 : n, fits ? 0 : 1);
            Bench d = withOutput(n);
            d.part(0, "*ESE 11;*CLS;");
            room(d, 0, n, 0);
            Bench.due("what is TOLD needs no room", d.house.register(0, 2, 1), 11);
        }
        Bench e = Bench.with(0, 0);
        e.tell(0, "*ESE 10;*ESE?;" + tests(29));
        Bench.due("of another one", e.ask(1, "*TST?"), "0\n");
    }

    private static void theEndHasNoRoom() {
        for (int n = 58; n <= 60; n++) {
            Bench b = withOutput(n);
            b.part(0, "\n");
            room(b, 0, n < 60 ? n + 1 : 60, n < 60 ? 0 : 1);
            Bench.due("the first", b.house.take(0), n % 2 == 0 ? '1' : '0');
            room(b, 0, n < 60 ? n : 60, 0);
            String rest = b.take(0);
            Bench.due("the last", rest.charAt(rest.length() - 1), 10);
        }
        Bench a = withOutput(60);
        a.part(0, "\n*TST?;");
        room(a, 6, 60, 1);
        a.house.take(0);
        room(a, 6, 60, 1);
        a.house.take(0);
        room(a, 0, 60, 0);
        Bench.due("a MESSAGE's first answer needs no room for a ;", a.take(0), ";0".repeat(29) + "\n0");
        Bench b = withOutput(60);
        b.tell(0, "*ESE 9");
        room(b, 0, 60, 1);
        Bench.due("what is TOLD is done", b.house.register(0, 2, 1), 9);
        b.tell(0, "*ESE 8");
        Bench.due("what is behind the END waits", b.house.register(0, 2, 1), 9);
        room(b, 6, 60, 1);
        b.house.take(0);
        room(b, 0, 60, 0);
        Bench.due("it is done then", b.house.register(0, 2, 1), 8);
        Bench.due("ERRORS", b.house.about(0, 3), 0);
    }

    /** "TAKEN is the first byte of OUTPUT; then what was HELD by it goes on." */
    private static void oneTakenMakesRoom() {
        Bench b = withOutput(60);
        b.part(0, "*TST?;*ESE 3;*TST?;");
        room(b, 19, 60, 1);
        Bench.due("UNITS", b.house.count(5), 31);
        b.house.take(0);
        room(b, 19, 59, 1);
        b.house.take(0);
        room(b, 6, 60, 1);
        Bench.due("the one between is done, too", b.house.register(0, 2, 1), 3);
        Bench.due("UNITS", b.house.count(5), 33);
        b.house.take(0);
        b.house.take(0);
        room(b, 0, 60, 0);
        Bench.due("all of it", b.take(0), ";0".repeat(30));
    }

    /** "Without room: if OUTPUT's lack of room HOLDS: DEADLOCKED" */
    private static void deadlockAtTheEightyFirst() {
        Bench b = withOutput(60);
        Bench.due("up to 80", b.part(0, "*TST?;*ESE 3;" + " ".repeat(67)), 80);
        room(b, 80, 60, 1);
        Bench.due("ERRORS", b.house.about(0, 3), 0);
        Bench.due("another byte", b.part(0, ";"), 1);
        Bench.due("ERROR", b.house.error(0, 0), -430);
        Bench.due("ERRORS", b.house.about(0, 3), 1);
        room(b, 0, 0, 0);
        Bench.due("it goes on", b.house.register(0, 2, 1), 3);
        b.part(0, "*TST?;*ESE?;\n");
        room(b, 0, 0, 0);
        Bench.due("the next MESSAGE", b.ask(0, "*TST?;*ESE?"), "0;3\n");
        Bench c = withOutput(60);
        Bench.due("UNITS that have ended alone", c.part(0, "*TST?;".repeat(13) + "*T"), 80);
        Bench.due("all of them", c.part(0, "ST?;" + "*TST?;".repeat(40) + "*ESE 4\n*ESE?\n"), 257);
        Bench.due("ERROR", c.house.error(0, 0), -430);
        Bench.due("ERRORS", c.house.about(0, 3), 1);
        Bench.due("the next MESSAGE", c.take(0), "4\n");
        Bench d = withOutput(60);
        d.part(0, "*TST?;" + "x".repeat(74));
        Bench.due("DEADLOCKED, then too long", d.part(0, "x".repeat(8)), 8);
        Bench.due("the first", d.house.error(0, 0), -430);
        Bench.due("the second", d.house.error(0, 1), -223);
        Bench.due("no other", d.house.about(0, 3), 2);
        room(d, 0, 0, 0);
    }

    /** "answers in what is left of the MESSAGE that is done, the HELD one and the 10, too, are not put" */
    private static void deadlockMutesOneMessage() {
        Bench b = withOutput(60);
        b.part(0, "\n" + " ".repeat(74) + ";*TST?");
        room(b, 80, 60, 1);
        Bench.due("another byte", b.part(0, "\n"), 1);
        Bench.due("ERROR", b.house.error(0, 0), -430);
        Bench.due("just the 10 is not put", b.take(0), "0\n");
        Bench c = withOutput(60);
        c.part(0, "*TST?;*ESE?\n*SRE 4;*SRE?\n" + " ".repeat(55));
        room(c, 80, 60, 1);
        c.part(0, " ");
        Bench.due("those of the next MESSAGE are", c.take(0), "4\n");
        Bench.due("ERRORS", c.house.about(0, 3), 1);
    }

    /** "if something else HOLDS .. the byte does not come .. and none behind it" */
    private static void fullWhilePending() {
        Bench b = Bench.with(1);
        b.tell(0, "APER 9;:INIT;*WAI");
        room(b, 4, 0, 2);
        Bench.due("up to 80", b.part(0, ";".repeat(76)), 76);
        room(b, 80, 0, 2);
        Bench.due("none comes", b.part(0, "\n"), 0);
        Bench.due("none comes", b.tell(0, "*CLS;*ESE 5"), 0);
        Bench.due("ERRORS", b.house.about(0, 3), 0);
        b.house.tick(8);
        room(b, 80, 0, 2);
        b.house.tick(1);
        room(b, 0, 0, 0);
        Bench.due("what did not come is not done", b.house.register(0, 2, 1), 0);
        Bench c = Bench.with(1);
        Bench.due("in one call", c.tell(0, "INIT;*WAI;" + ";".repeat(75) + "*ESE 5"), 85);
        room(c, 80, 0, 2);
        Bench d = Bench.with(1);
        Bench.due("all but the last come", d.tell(0, "READ?;" + " ".repeat(74) + "\n"), 80);
        d.house.tick(1);
        Bench.due("its END did not come", d.take(0), "9.91E37");
        d.tell(0, " ");
        Bench.due("it comes then", d.take(0), "\n");
        Bench.due("ERRORS", d.house.about(0, 3), 0);
    }

    private static void fullAsPendingEnds() {
        Bench b = Bench.with(1);
        b.part(0, "INIT;*WAI;" + " ".repeat(75));
        room(b, 80, 0, 2);
        b.house.tick(1);
        room(b, 75, 0, 0);
        Bench.due("five more", b.part(0, "*ESE "), 5);
        room(b, 80, 0, 0);
        Bench.due("the 81st", b.part(0, "5"), 1);
        Bench.due("ERROR", b.house.error(0, 0), -223);
    }

    /** "The first byte of a MESSAGE, while OUTPUT is not empty, and all MESSAGES before are done: INTERRUPTED" */
    private static void interrupted() {
        for (int left = 0; left <= 2; left++) {
            Bench b = Bench.with(0);
            b.tell(0, "*TST?");
            for (int k = left; k < 2; k++) b.house.take(0);
            b.part(0, " ");
            Bench.due("ERRORS with " + left + " bytes left", b.house.about(0, 3), left > 0 ? 1 : 0);
            Bench.due("ERROR", b.house.error(0, 0), left > 0 ? -410 : BAD);
            room(b, 1, 0, 0);
            b.part(0, "*ESE 1;*TST?;");
            b.part(0, "*TST?");
            Bench.due("not again within it", b.house.about(0, 3), left > 0 ? 1 : 0);
        }
        Bench b = Bench.with(1);
        b.tell(0, "*TST?;:READ?");
        b.part(0, "*TST?");
        Bench.due("not while one before is not done", b.house.about(0, 3), 0);
        b.house.tick(1);
        b.tell(0, "\n");
        Bench.due("nor then", b.take(0), "0;9.91E37\n0\n");
        for (int n = 1; n <= 2; n++) {
            Bench h = withOutput(60);
            h.part(0, "\n" + "*ESE 7\n".substring(0, n));
            room(h, n, 60, 1);
            h.house.take(0);
            room(h, n, 60, 0);
            h.part(0, "*ESE 7\n".substring(n));
            Bench.due("nor where its first byte came before", h.house.about(0, 3), 0);
            Bench.due("it is done", h.house.register(0, 2, 1), 7);
            h.part(0, " ");
            Bench.due("the first byte of the next", h.house.error(0, 0), -410);
        }
        Bench c = withOutput(59);
        c.part(0, "\n");
        room(c, 0, 60, 0);
        c.part(0, "\n");
        Bench.due("by a 10, of 60 bytes", c.house.error(0, 0), -410);
        room(c, 0, 0, 0);
    }

    /** "UNTERMINATED: ERROR -420; what INPUT has is gone, the MESSAGE is begun anew"; "-5 UNTERMINATED" */
    private static void takenOfNothing() {
        Bench b = Bench.with(0);
        for (int k = 1; k <= 11; k++) {
            Bench.due("take", b.house.take(0), -5);
            Bench.due("ERRORS", b.house.about(0, 3), Math.min(k, 10));
        }
        Bench.due("the last", b.house.error(0, 9), -350);
        Bench.due("TAKEN", b.house.count(6), 0);
        Bench c = Bench.with(0);
        c.part(0, "*ESE 5;" + " ".repeat(80));
        room(c, 80, 0, 0);
        Bench.due("take", c.house.take(0), -5);
        room(c, 0, 0, 0);
        Bench.due("80 bytes have room then", c.part(0, "*ESE" + " ".repeat(75) + "6"), 80);
        c.tell(0, "");
        Bench.due("ERRORS", c.house.about(0, 3), 1);
        int[] bad = {-1, 1, 4, Integer.MIN_VALUE, Integer.MAX_VALUE};
        for (int i : bad) {
            Bench.due("take(" + i + ")", c.house.take(i), BAD);
            Bench.due("clear(" + i + ")", c.house.clear(i), BAD);
            Bench.due("send(" + i + ")", c.tell(i, "x"), BAD);
        }
    }

    /** "if something but OUTPUT HOLDS: nothing (WAITS)"; "-4 it WAITS" */
    private static void waits() {
        Bench b = Bench.with(1);
        b.tell(0, "*TST?;:APER 2;:READ?");
        Bench.due("what is there", b.house.take(0), '0');
        Bench.due("it WAITS", b.house.take(0), -4);
        Bench.due("it WAITS", b.house.take(0), -4);
        b.house.tick(1);
        Bench.due("it WAITS", b.house.take(0), -4);
        b.house.tick(1);
        Bench.due("no more", b.take(0), ";9.91E37\n");
        Bench.due("ERRORS", b.house.about(0, 3), 0);
        Bench.due("TAKEN", b.house.count(6), 10);
        Bench.due("none", b.house.take(0), -5);
        Bench.due("TAKEN", b.house.count(6), 10);
        String[] held = {"INIT;*WAI", "INIT;*OPC?"};
        for (String s : held) {
            b.tell(0, "*CLS;:" + s);
            Bench.due("it WAITS for " + s, b.house.take(0), -4);
            b.house.tick(2);
            Bench.due("no more", b.house.take(0), s.endsWith("?") ? '1' : -5);
            b.take(0);
        }
    }

    /** "A CLEAR: how many bytes of OUTPUT went." */
    private static void cleared() {
        int[] outputs = {1, 2, 59, 60};
        for (int n : outputs) {
            Bench b = withOutput(n);
            b.part(0, "*T");
            Bench.due("bytes that went", b.house.clear(0), n);
            room(b, 0, 0, 0);
            Bench.due("none more", b.house.clear(0), 0);
            Bench.due("a new MESSAGE", b.ask(0, "*TST?"), "0\n");
            Bench.due("ERRORS", b.house.about(0, 3), 0);
        }
        Bench b = withOutput(60);
        b.part(0, "*TST?;" + " ".repeat(74));
        room(b, 80, 60, 1);
        Bench.due("bytes that went", b.house.clear(0), 60);
        room(b, 0, 0, 0);
        Bench.due("80 bytes have room then", b.part(0, " ".repeat(80)), 80);
        Bench.due("ERRORS", b.house.about(0, 3), 0);
    }

    /** "without bytes: nothing" */
    private static void sentWithoutBytes() {
        Bench b = Bench.with(0);
        Bench.due("none", b.tell(0, ""), 0);
        b.tell(0, "*TST?");
        Bench.due("none", b.tell(0, ""), 0);
        Bench.due("none", b.part(0, ""), 0);
        Bench.due("no INTERRUPTED", b.take(0), "0\n");
        b.part(0, "*ESE 5");
        b.tell(0, "");
        Bench.due("no END", b.house.register(0, 2, 1), 0);
        Bench.due("one byte", b.tell(0, "6"), 1);
        Bench.due("the END is told with the last one", b.house.register(0, 2, 1), 56);
    }

    /** "*IDN? must be the last one that is ASKED in a MESSAGE" */
    private static void identifiedLast() {
        Bench b = Bench.with(1);
        Bench.due("the last", b.errorsOf(0, "*TST?;*IDN?"), "");
        Bench.due("TOLD ones may be behind", b.errorsOf(0, "*IDN?;*CLS;*ESE 1"), "");
        Bench.due("one behind", b.errorsOf(0, "*IDN?;*TST?"), "-440");
        Bench.due("itself", b.errorsOf(0, "*IDN?;*IDN?"), "-440");
        String[] others = {"*FOO?", "FETC1?", "RANG? 1", "RANG? A", "*TST? 1", "$?", "*CLS?"};
        String[] due = {"-113", "-114", "-104", "-141", "-108", "-101", "-113"};
        for (int k = 0; k < others.length; k++) Bench.due("another ERROR, of " + others[k], b.errorsOf(0, "*IDN?;" + others[k]), due[k]);
        Bench.due("what it would do is none", b.errorsOf(0, "*IDN?;FETC?"), "-440");
        Bench s = Bench.with(2);
        Bench.due("another ERROR by its data", s.errorsOf(0, "*IDN?;ROUT:CLOS? (@9)"), "-222");
        Bench.due("another ERROR by its data", s.errorsOf(0, "*IDN?;ROUT:CLOS? (@1:21)"), "-223");
        Bench.due("another ERROR by its data", s.errorsOf(0, "*IDN?;ROUT:CLOS?"), "-109");
        s.tell(0, "*CLS;:FOO");
        Bench.due("it is not done", s.ask(0, "*IDN?;*ESR?;SYST:ERR?"), "BENCH,2,0,0\n");
        Bench.due("the ERRORS stay", s.errors(0), "-113 -440 -440");
    }
}
