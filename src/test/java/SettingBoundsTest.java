/** The boundary cases of parts 8 and 9 and of promise 19: what is kept, bounds of THE TABLE's COMMANDS, TEXT, setting. */
public final class SettingBoundsTest {
    private static final long NONE = GaugeHouse.NONE;
    private static final int[] FAR = {Integer.MIN_VALUE, Integer.MAX_VALUE};

    public static void main(String[] args) {
        noSuchSettings();
        settingsOfKinds();
        settingsOfSuffixes();
        commandsOfKinds();
        threeSaved();
        nothingSaved();
        savedOfEachInstrument();
        resetLeaves();
        recalledAborts();
        texts();
        refusedTextsChangeNothing();
        rangeTurnsAutoOff();
        starsWithoutBounds();
        unitsCounted();
        Bench.end();
    }

    /** "NONE: there is none such (a LIST, STRING, BLOCK is none) .." */
    private static void noSuchSettings() {
        Bench b = Bench.owning(":A#4 truth 1 whole 1 9 5;:B;:C#2;", 2);
        GaugeHouse x = b.house;
        int[][] none = {{-1, 11, 1, 0}, {1, 11, 1, 0}, {4, 11, 1, 0}, {FAR[0], 11, 1, 0}, {FAR[1], 11, 1, 0}, {0, -1, 1, 0}, {0, 40, 1, 0}, {0, 57, 1, 0}, {0, 100, 1, 0}, {0, 101, 1, 0}, {0, 108, 1, 0},
            {0, FAR[0], 1, 0}, {0, FAR[1], 1, 0}, {0, 11, 0, 0}, {0, 11, 2, 0}, {0, 11, -1, 0}, {0, 11, FAR[0], 0}, {0, 11, FAR[1], 0}, {0, 11, 1, 1}, {0, 11, 1, -1}, {0, 11, 1, FAR[0]}, {0, 11, 1, FAR[1]},
            {0, 37, 0, 0}, {0, 37, 5, 0}, {0, 37, 1, 2}, {0, 37, 4, 2}, {0, 37, 1, -1}, {0, 38, 1, 0}, {0, 39, 1, 0}, {0, 39, 2, 0}};
        for (int[] s : none) Bench.due("setting(" + s[0] + ", " + s[1] + ", " + s[2] + ", " + s[3] + ")", x.setting(s[0], s[1], s[2], s[3]), NONE);
        int[] without = {0, 2, 9, 10, 18, 24, 25, 29, 30, 34, 35, 36};
        for (int c : without) Bench.due("setting of " + c + " without PARAMETERS", x.setting(0, c, 1, 0), NONE);
        for (int c = 20; c <= 23; c++) Bench.due("setting of " + c + ", a LIST, STRING, BLOCK", x.setting(0, c, 1, 0), NONE);
        for (int s = 1; s <= 4; s++) {
            Bench.due("SUFFIX " + s, x.setting(0, 37, s, 0), 1);
            Bench.due("SUFFIX " + s, x.setting(0, 37, s, 1), 5);
        }
    }

    /** "or it is of a METER, SCANNER alone" */
    private static void settingsOfKinds() {
        Bench b = Bench.with(0, 1, 2);
        for (int c = 0; c < 37; c++) {
            boolean plain = c == 26 || c == 27 || c == 28 || c == 31 || c == 32 || c == 33;
            boolean meter = c == 1 || c >= 3 && c <= 8 || c >= 11 && c <= 17 || c == 19;
            for (int kind = 0; kind < 3; kind++) {
                boolean has = plain || meter && kind > 0;
                Bench.due("setting of " + c + " of KIND " + kind, b.house.setting(kind, c, 1, 0) != NONE ? 1 : 0, has ? 1 : 0);
            }
        }
    }

    /** "for a SUFFIX (1; of those without 1)" */
    private static void settingsOfSuffixes() {
        Bench b = Bench.owning(":A#2 whole 0 99 0;:B:C#4 whole 0 99 0;:D#3:E whole 0 99 0;", 0);
        b.tell(0, "A 10;A2 12");
        b.tell(0, "B:C01 21;C2 22;C3 23;C04 24");
        b.tell(0, "D3:E 33;:D1:E 31");
        long[][] due = {{10, 12, NONE, NONE}, {21, 22, 23, 24}, {31, 0, 33, NONE}};
        for (int c = 0; c < 3; c++) {
            for (int s = 1; s <= 4; s++) Bench.due("setting of " + c + " for " + s, b.house.setting(0, 37 + c, s, 0), due[c][s - 1]);
        }
        Bench.due("ERRORS", b.house.about(0, 3), 0);
        Bench.due("ASKED", b.ask(0, "A?;A1?;A2?;:B:C4?;C?"), "10;10;12;24;21\n");
    }

    /** "of a METER, a SCANNER alone with M, S: -113 else" */
    private static void commandsOfKinds() {
        String[] meters = {"INIT", "INIT:CONT?", "ABOR", "ARM:SOUR?", "ARM:COUN?", "TRIG:SOUR?", "TRIG:COUN?", "TRIG:DEL?", "TRIG:TIM?", "FETC?", "READ?", "RANG?", "RANG:AUTO?", "APER?", "CALC:NULL?", "CALC:LIM:LOW?",
            "CALC:LIM:UPP?", "CALC:LIM:STAT?", "CALC:LIM:FAIL?", "TRAC:FEED?", "TRAC:DATA #10", "*TRG"};
        String[] scanners = {"ROUT:CLOS (@1)", "ROUT:CLOS? (@1)", "ROUT:OPEN (@1)"};
        String[] plains = {"DISP:TEXT?", "DISP:TEXT 'a'", "STAT:OPER?", "STAT:OPER:COND?", "STAT:OPER:ENAB?", "STAT:OPER:PTR?", "STAT:OPER:NTR?", "STAT:QUES?", "STAT:QUES:COND?", "STAT:QUES:ENAB?",
            "STAT:QUES:PTR?", "STAT:QUES:NTR?", "STAT:PRES", "*CLS", "*ESE 1", "*ESE?", "*ESR?", "*OPC", "*SRE 1", "*SRE?", "*STB?", "*TST?", "SYST:ERR?", "SYST:ERR:COUN?", "*CLS", "*IDN?", "*RST", "*SAV 0", "*WAI", "*OPC?"};
        for (int kind = 0; kind < 3; kind++) {
            for (String s : meters) Bench.due(s + " of KIND " + kind, Bench.with(kind).errorsOf(0, s).equals("-113") ? 1 : 0, kind < 1 ? 1 : 0);
            for (String s : scanners) Bench.due(s + " of KIND " + kind, Bench.with(kind).errorsOf(0, s), kind < 2 ? "-113" : "");
            for (String s : plains) Bench.due(s + " of KIND " + kind, Bench.with(kind).errorsOf(0, s), "");
        }
    }

    /** "*SAV n, *RCL n (0 to 2)"; "(-222 ..)" */
    private static void threeSaved() {
        Bench b = Bench.owning(":A#4 whole 0 99 50;", 2);
        for (int n = 0; n <= 2; n++) {
            Bench.due("errors of *SAV " + n, b.errorsOf(0, "A4 " + n + ";:APER " + (n + 3) + ";:ROUT:CLOS (@" + (n + 1) + "," + (n + 6) + ");*SAV " + n), "");
        }
        String[] bad = {"*SAV 3", "*SAV -1", "*SAV 2.5", "*SAV -0.5", "*SAV 1E9", "*RCL 3", "*RCL -1", "*RCL 2.5", "*RCL -0.5", "*RCL 99"};
        for (String s : bad) Bench.due("errors of " + s, b.errorsOf(0, s), "-222");
        Bench.due("what is refused changes nothing", b.house.setting(0, 13, 1, 0), 5);
        b.tell(0, "*RST");
        for (int n = 2; n >= 0; n--) {
            Bench.due("errors of *RCL " + n, b.errorsOf(0, "*RCL " + n), "");
            Bench.due("OWN one", b.house.setting(0, 37, 4, 0), n);
            Bench.due("its other SUFFIX", b.house.setting(0, 37, 3, 0), 50);
            Bench.due("APERture", b.house.setting(0, 13, 1, 0), n + 3);
            Bench.due("channels", b.house.about(0, 9), 1 << n + 1 | 1 << n + 6);
        }
        Bench.due("rounded", b.errorsOf(0, "*RCL 2.4999;*RCL -0.4999;*SAV 1.5"), "");
        b.tell(0, "*RCL 2");
        Bench.due("what 0 was is 2 then", b.house.setting(0, 13, 1, 0), 3);
    }

    /** "of RCL, where nothing was saved: -230" */
    private static void nothingSaved() {
        for (int n = 0; n <= 2; n++) {
            Bench b = Bench.with(1);
            b.tell(0, "APER 7;:INIT");
            Bench.due("nothing was saved", b.errorsOf(0, "*RCL " + n), "-230");
            Bench.due("it stays", b.house.setting(0, 13, 1, 0), 7);
            Bench.due("not IDLE", b.house.about(0, 4), 4);
            b.tell(0, "*SAV " + n);
            for (int m = 0; m <= 2; m++) Bench.due("*RCL " + m + " behind *SAV " + n, b.errorsOf(0, "*RCL " + m), m == n ? "" : "-230");
        }
    }

    private static void savedOfEachInstrument() {
        Bench b = Bench.with(1, 1);
        b.tell(0, "APER 7;*SAV 1");
        Bench.due("of another one", b.errorsOf(1, "*RCL 1"), "-230");
        b.tell(0, "*RST;*CLS");
        Bench.due("*RST leaves what is saved", b.errorsOf(0, "*RCL 1"), "");
        Bench.due("it comes back", b.house.setting(0, 13, 1, 0), 7);
    }

    /** "*RST: first values, no TEXT, all channels open, IDLE"; "(ENABle, PTRansition, NTRansition, *ESE, *SRE stay at *RST, *RCL.)" */
    private static void resetLeaves() {
        Bench b = Bench.owning(":A#3 whole 0 9 5 truth 1;", 2);
        b.tell(0, "A 1,0;A2 2,0;A3 3,0;:ARM:COUN 9;:TRIG:TIM 50;:CALC:NULL MIN;:TRAC:FEED ON;:RANG:AUTO ON;:ROUT:CLOS (@4,8)");
        b.tell(0, "STAT:OPER:ENAB 1;PTR 2;NTR 3;:STAT:QUES:ENAB 4;PTR 5;NTR 6;*ESE 7;*SRE 8;:DISP:TEXT 'x';:INIT;*RST");
        for (int s = 1; s <= 3; s++) Bench.due("SUFFIX " + s, b.house.setting(0, 37, s, 0) * 10 + b.house.setting(0, 37, s, 1), 51);
        int[] c = {4, 8, 14, 19, 12, 26, 27, 28, 31, 32, 33};
        long[] due = {1, 1, 0, 0, 0, 1, 2, 3, 4, 5, 6};
        for (int k = 0; k < c.length; k++) Bench.due("setting " + c[k], b.house.setting(0, c[k], 1, 0), due[k]);
        Bench.due("*ESE, *SRE", b.ask(0, "*ESE?;*SRE?;:DISP:TEXT?"), "7;8;\"\"\n");
        Bench.due("channels", b.house.about(0, 9), 0);
        Bench.due("how often one was closed", b.house.about(0, 10), 2);
        Bench.due("IDLE", b.house.about(0, 4), 0);
        b.tell(0, "*SAV 0;:STAT:OPER:ENAB 11;PTR 12;NTR 13;*ESE 17;*SRE 18;:DISP:TEXT 'y';*RCL 0");
        Bench.due("they stay at *RCL", b.ask(0, "STAT:OPER:ENAB?;PTR?;NTR?;*ESE?;*SRE?;:DISP:TEXT?"), "11;12;13;17;18;\"y\"\n");
    }

    /** "RCL does what ABORt does then" */
    private static void recalledAborts() {
        Bench b = Bench.with(1);
        b.tell(0, "*SAV 0;:INIT:CONT ON;*SAV 1;:INIT:CONT OFF;:ABOR");
        b.tell(0, "APER 5;:INIT;*RCL 0");
        Bench.due("IDLE", b.house.about(0, 4), 0);
        b.tell(0, "*RCL 1");
        Bench.due("INITIATED, as it is CONTINUOUS", b.house.about(0, 4), 4);
        Bench.due("not PENDING", b.house.about(0, 5), 0);
        b.tell(0, "*RCL 0");
        Bench.due("IDLE", b.house.about(0, 4), 0);
    }

    private static void text(String message, String due) {
        Bench b = Bench.with(0);
        Bench.due("errors of " + message, b.errorsOf(0, message), "");
        Bench.due("TEXT of " + message, b.ask(0, "DISP:TEXT?"), due + "\n");
    }

    /** "a STRING of up to 12 bytes 32 to 126 (-222 else), ASKED: in \", those in it doubled" */
    private static void texts() {
        text("DISP:TEXT ''", "\"\"");
        text("DISP:TEXT 'x'", "\"x\"");
        text("DISP:TEXT '12345678901'", "\"12345678901\"");
        text("DISP:TEXT '123456789012'", "\"123456789012\"");
        text("DISP:TEXT ' ~'", "\" ~\"");
        text("DISP:TEXT '" + "''".repeat(12) + "'", "\"" + "'".repeat(12) + "\"");
        text("DISP:TEXT '" + "\"".repeat(12) + "'", "\"" + "\"\"".repeat(12) + "\"");
        text("DISP:TEXT \"" + "\"\"".repeat(12) + "\"", "\"" + "\"\"".repeat(12) + "\"");
        String[] bad = {"'1234567890123'", "'" + "''".repeat(13) + "'", "'\u001f'", "'\u007f'", "'\0'", "'\u0080'", "'\u00ff'", "'12345678901\t'", "'\t'", "'1234567890123\t'"};
        for (String s : bad) Bench.due("errors of " + s, Bench.with(0).errorsOf(0, "DISP:TEXT " + s), "-222");
        for (int b = 32; b < 127; b++) {
            if (b != '"' && b != '\'') text("DISP:TEXT '" + (char) b + "'", "\"" + (char) b + "\"");
        }
    }

    private static void refusedTextsChangeNothing() {
        Bench b = Bench.with(0);
        b.tell(0, "DISP:TEXT 'before'");
        b.tell(0, "DISP:TEXT '1234567890123'");
        b.tell(0, "DISP:TEXT 'a\t'");
        Bench.due("it stays", b.ask(0, "DISP:TEXT?"), "\"before\"\n");
        b.tell(0, "DISP:TEXT ''");
        Bench.due("an empty one", b.ask(0, "DISP:TEXT?"), "\"\"\n");
    }

    /** "[:SENSe]:RANGe whole 0 6 0 M: AUTO is off." */
    private static void rangeTurnsAutoOff() {
        int[] ranges = {0, 6};
        for (int r : ranges) {
            Bench b = Bench.with(1);
            b.tell(0, "RANG:AUTO ON;:RANG " + r);
            Bench.due("AUTO", b.house.setting(0, 12, 1, 0), 0);
            b.tell(0, "RANG:AUTO ON;:RANG? MAX;:RANG 7;:RANG -1");
            Bench.due("AUTO", b.house.setting(0, 12, 1, 0), 1);
            Bench.due("RANGE", b.house.about(0, 8), r);
        }
    }

    /** "(n: as a WHOLE number, no stand-ins.)" */
    private static void starsWithoutBounds() {
        Bench b = Bench.with(1);
        String[] told = {"0", "255", "254.5", "#HFF", "#B0", "2.55E2", "0.4", "-0.4"};
        int[] due = {0, 255, 255, 255, 0, 255, 0, 0};
        for (int k = 0; k < told.length; k++) {
            Bench.due("errors of *ESE " + told[k], b.errorsOf(0, "*ESE " + told[k]), "");
            Bench.due("*ESE " + told[k], b.house.register(0, 2, 1), due[k]);
        }
        String[] bad = {"*ESE 256", "*ESE -1", "*ESE 255.5", "*ESE -0.5", "*ESE 1E99", "*ESE MIN", "*ESE? MIN", "*ESE 1V", "*ESE", "*ESE 1,2"};
        String[] errors = {"-222", "-222", "-222", "-222", "-222", "-104", "-108", "-131", "-109", "-108"};
        for (int k = 0; k < bad.length; k++) Bench.due("errors of " + bad[k], b.errorsOf(0, bad[k]), errors[k]);
        Bench.due("it stays", b.house.register(0, 2, 1), 0);
    }

    /** "5 UNITS done ever (those with an ERROR, too; one that HOLDS as it ends)" */
    private static void unitsCounted() {
        Bench b = Bench.with(1, 0);
        String[] messages = {"", " ", ";;", "*CLS", "*CLS;*CLS", "$", "*ESE 999;*CLS", "FOO;*CLS;*CLS", "*TST?;*TST?", "*IDN?;*TST?"};
        int[] due = {0, 0, 0, 1, 2, 1, 2, 1, 2, 2};
        for (int k = 0; k < messages.length; k++) {
            int before = b.house.count(5);
            b.house.clear(0);
            b.tell(0, messages[k]);
            Bench.due("UNITS of " + messages[k], b.house.count(5) - before, due[k]);
        }
        b.house.clear(0);
        int before = b.house.count(5);
        b.tell(0, "READ?;*WAI");
        Bench.due("one that HOLDS", b.house.count(5) - before, 0);
        b.tell(1, "*CLS");
        Bench.due("of all INSTRUMENTS", b.house.count(5) - before, 1);
        b.house.tick(1);
        Bench.due("as it ends", b.house.count(5) - before, 3);
    }
}
