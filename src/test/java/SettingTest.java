/** Promise 19, parts 8 and 9 of the terms: settings, what is saved and reset, TEXT, FEED. */
public final class SettingTest {
    public static void main(String[] args) {
        firstValues();
        none();
        kept();
        reset();
        texts();
        stars();
        Bench.end();
    }

    private static void firstValues() {
        Bench b = Bench.with(2, 1, 0);
        int[] c = {1, 3, 4, 5, 6, 7, 8, 11, 12, 13, 14, 15, 16, 17, 19, 26, 27, 28, 31, 32, 33};
        int[] first = {0, 0, 1, 0, 1, 0, 1, 0, 0, 1, 0, 0, 0, 0, 0, 0, 32767, 0, 0, 32767, 0};
        for (int k = 0; k < c.length; k++) {
            Bench.due("setting " + c[k], b.house.setting(0, c[k], 1, 0), first[k]);
            Bench.due("setting " + c[k], b.house.setting(1, c[k], 1, 0), first[k]);
            Bench.due("setting " + c[k] + " of a PLAIN one", b.house.setting(2, c[k], 1, 0), c[k] < 20 ? GaugeHouse.NONE : first[k]);
        }
        String[] told = {"INIT:CONT 1", "ARM:SOUR BUS", "ARM:COUN 2", "TRIG:SOUR TIMER", "TRIG:COUN MAX", "TRIG:DEL 20", "TRIG:TIM 50", "RANG 6", "RANG:AUTO ON",
            "APER 10", "CALC:NULL -1KV", "CALC:LIM:LOW -1MAV", "CALC:LIM:UPP 1E6", "CALC:LIM:STAT ON", "TRAC:FEED ON", "STAT:OPER:ENAB 1",
            "STAT:OPER:PTR 2", "STAT:OPER:NTR 3", "STAT:QUES:ENAB 4", "STAT:QUES:PTR 5", "STAT:QUES:NTR 6"};
        long[] due = {1, 1, 2, 2, 9, 20, 50, 6, 1, 10, -1000000, -1000000000, 1000000000, 1, 1, 1, 2, 3, 4, 5, 6};
        String[] answers = {"1", "BUS", "2", "TIM", "9", "20", "50", "6", "1", "10", "-1000.000", "-1000000.000", "1000000.000", "1", "1", "1", "2", "3", "4", "5", "6"};
        for (int k = 0; k < c.length; k++) {
            b.tell(1, told[k]);
            Bench.due("setting by " + told[k], b.house.setting(1, c[k], 1, 0), due[k]);
            Bench.due("asked behind " + told[k], b.ask(1, told[k].split(" ")[0] + "?"), answers[k] + "\n");
            Bench.due("of another one", b.house.setting(0, c[k], 1, 0), first[k]);
        }
        Bench.due("no ERRORS", b.house.about(1, 3), 0);
    }

    private static void none() {
        Bench b = new Bench();
        b.own(":A#2 truth 1 whole 1 9 5;:B;");
        b.house.instrument(2);
        int[][] bad = {{-1, 11, 1, 0}, {1, 11, 1, 0}, {0, -1, 1, 0}, {0, 39, 1, 0}, {0, 100, 1, 0}, {0, 101, 1, 0}, {0, 11, 0, 0}, {0, 11, 2, 0}, {0, 11, 1, 1},
            {0, 11, 1, -1}, {0, 0, 1, 0}, {0, 20, 1, 0}, {0, 21, 1, 0}, {0, 22, 1, 0}, {0, 23, 1, 0}, {0, 24, 1, 0}, {0, 37, 3, 0}, {0, 37, 0, 0}, {0, 37, 1, 2}, {0, 38, 1, 0}};
        for (int[] s : bad) Bench.due("setting " + s[1], b.house.setting(s[0], s[1], s[2], s[3]), GaugeHouse.NONE);
        Bench.due("setting", b.house.setting(0, 37, 2, 0), 1);
        Bench.due("setting", b.house.setting(0, 37, 2, 1), 5);
    }

    private static void kept() {
        Bench b = new Bench();
        b.own(":A#2 truth 1 whole 1 9 5;");
        b.house.instrument(2);
        Bench.due("nothing was saved", b.errorsOf(0, "*RCL 0"), "-230");
        Bench.due("of a number that cannot be", b.errorsOf(0, "*RCL 3;*SAV -1"), "-222 -222");
        b.tell(0, "A2 0,7;:RANG:AUTO 1;:RANG 3;:TRIG:COUN 4;:ROUT:CLOS (@2,7);:DISP:TEXT 'one';:TRAC:FEED ON;*SAV 1");
        b.tell(0, "A2 1,8;:RANG:AUTO 1;:TRIG:COUN 5;:ROUT:CLOS (@3);:DISP:TEXT 'two';*SAV 2;*SAV 0.4;*RST");
        int closings = b.house.about(0, 10);
        Bench.due("*RST", b.ask(0, "A2?;:RANG?;:RANG:AUTO?;:TRIG:COUN?;:ROUT:CLOS? (@2,3,7);:DISP:TEXT?"), "1,5;0;0;1;0,0,0;\"\"\n");
        b.tell(0, "DISP:TEXT 'now';*RCL 1");
        Bench.due("*RCL", b.ask(0, "A2?;:RANG?;:RANG:AUTO?;:TRIG:COUN?;:ROUT:CLOS? (@2,3,7);:DISP:TEXT?"), "0,7;3;0;4;1,0,1;\"now\"\n");
        b.tell(0, "*RCL 0");
        Bench.due("*RCL", b.ask(0, "A2?;:RANG?;:RANG:AUTO?;:TRIG:COUN?;:ROUT:CLOS? (@2,3,7)"), "1,8;3;1;5;0,1,1\n");
        Bench.due("channels come back, none is closed", b.house.about(0, 10), closings);
        b.tell(0, "INIT;*RCL 2");
        Bench.due("RCL does what ABORt does", b.house.about(0, 4), 0);
    }

    private static void reset() {
        Bench b = Bench.with(2);
        b.tell(0, "INIT:CONT 1;*SAV 0;:STAT:OPER:ENAB 3;*RST");
        Bench.due("IDLE", b.house.about(0, 4), 0);
        Bench.due("CONTINUOUS", b.house.setting(0, 1, 1, 0), 0);
        Bench.due("ENABle stays", b.house.setting(0, 26, 1, 0), 3);
        b.tell(0, "*RCL 0");
        Bench.due("what was saved stays", b.house.setting(0, 1, 1, 0), 1);
        Bench.due("INITIATED", b.house.about(0, 4), 4);
    }

    private static void texts() {
        Bench b = Bench.with(0);
        Bench.due("at first", b.ask(0, "DISP:TEXT?"), "\"\"\n");
        Bench.due("doubled", b.ask(0, "DISP:TEXT 'a\"b''c\"\"';TEXT?"), "\"a\"\"b'c\"\"\"\"\"\n");
        Bench.due("12 bytes", b.ask(0, "DISP:TEXT \"\"\"\"\"\"\"\"\"\"\"\"\"\"\"\"\"\"\"\"\"\"\"\"\"\";TEXT?"), "\"\"\"\"\"\"\"\"\"\"\"\"\"\"\"\"\"\"\"\"\"\"\"\"\"\"\n");
        b.tell(0, "DISP:TEXT '1234567890123'");
        Bench.due("13 are too many", b.errors(0), "-222");
        Bench.due("it stays", b.ask(0, "DISP:WIND:TEXT?").length(), 27);
        Bench.due("none", b.ask(0, "DISP:TEXT '';TEXT?"), "\"\"\n");
        b.tell(0, "DISP:TEXT ' ~'");
        Bench.due("the edges", b.ask(0, "DISP:TEXT?"), "\" ~\"\n");
    }

    private static void stars() {
        Bench b = Bench.with(1);
        Bench.due("asked", b.ask(0, "*ese 7.5;*ESE?;*Sre 3;*SRE?;*tst?;*OPC?"), "8;3;0;1\n");
        b.tell(0, "*RST;*CLS;*SAV 2;*RCL 2;*OPC;*WAI");
        Bench.due("no ERRORS", b.house.about(0, 3), 0);
    }
}
