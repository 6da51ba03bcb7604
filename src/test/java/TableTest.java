/** Promises 3, 4 and 5: own, header, command. */
public final class TableTest {
    public static void main(String[] args) {
        builtRows();
        headers();
        ownRows();
        faultsOfTokens();
        faultsOfNumbers();
        faultsOfLimits();
        twins();
        refusals();
        Bench.end();
    }

    private static void builtRows() {
        String[] paths = {"INIT", "INIT:CONT", "ABOR", "ARM:SOUR", "ARM:COUN", "TRIG:SOUR", "TRIG:COUN", "TRIG:DEL", "TRIG:TIM",
            "FETC", "READ", "RANG", "RANG:AUTO", "APER", "CALC:NULL", "CALC:LIM:LOW", "CALC:LIM:UPP", "CALC:LIM:STAT",
            "CALC:LIM:FAIL", "TRAC:FEED", "TRAC:DATA", "ROUT:CLOS", "ROUT:OPEN", "DISP:TEXT", "STAT:OPER", "STAT:OPER:COND",
            "STAT:OPER:ENAB", "STAT:OPER:PTR", "STAT:OPER:NTR", "STAT:QUES", "STAT:QUES:COND", "STAT:QUES:ENAB",
            "STAT:QUES:PTR", "STAT:QUES:NTR", "STAT:PRES", "SYST:ERR", "SYST:ERR:COUN"};
        int[] nodes = {2, 2, 1, 2, 2, 2, 2, 2, 2, 1, 1, 2, 3, 2, 2, 3, 3, 3, 3, 2, 2, 2, 2, 3, 3, 3, 3, 3, 3, 3, 3, 3, 3, 3, 2, 3, 3};
        int[] forms = {1, 3, 1, 3, 3, 3, 3, 3, 3, 2, 2, 3, 3, 3, 3, 3, 3, 3, 2, 3, 1, 3, 1, 3, 2, 2, 3, 3, 3, 2, 2, 3, 3, 3, 1, 2, 2};
        int[] parameters = {0, 1, 0, 1, 1, 1, 1, 1, 1, 0, 0, 1, 1, 1, 1, 1, 1, 1, 0, 1, 1, 1, 1, 1, 0, 0, 1, 1, 1, 0, 0, 1, 1, 1, 0, 0, 0};
        Bench b = new Bench();
        for (int c = 0; c < 37; c++) {
            Bench.due("header " + paths[c], b.header(paths[c]), c);
            Bench.due("NODES of " + paths[c], b.house.command(c, 0), nodes[c]);
            Bench.due("FORMS of " + paths[c], b.house.command(c, 1), forms[c]);
            Bench.due("PARAMETERS of " + paths[c], b.house.command(c, 2), parameters[c]);
            Bench.due("SUFFIXES of " + paths[c], b.house.command(c, 3), 0);
        }
        Bench.due("command(37, 0)", b.house.command(37, 0), -1);
        Bench.due("command(-1, 0)", b.house.command(-1, 0), -1);
        Bench.due("command(100, 0)", b.house.command(100, 0), -1);
        Bench.due("command(0, 4)", b.house.command(0, 4), -1);
        Bench.due("command(0, -1)", b.house.command(0, -1), -1);
    }

    private static void headers() {
        Bench b = new Bench();
        String[] fits = {":INITiate:IMMediate", "init:imm", "INITIATE", ":initIATE", ":SENSe:RANGe", "sens:rang:auto",
            "RANGE:AUTO", "DISPlay:WINDow:TEXT", "STAT:OPER:EVEN", "SYST:ERR:NEXT", "STATUS:QUESTIONABLE:NTRANSITION"};
        int[] due = {0, 0, 0, 0, 11, 12, 12, 23, 24, 35, 33};
        for (int k = 0; k < fits.length; k++) Bench.due("header " + fits[k], b.header(fits[k]), due[k]);
        String[] none = {"INITI", "INI", "INIT:IMM:IMM", "IMM", "SENS", "ERR:SYST", "STAT", "A", "A:B:C:D:E:F:G:H:I:J", "SYST2:FOO",
            "ABCDEFGHIJKL12"};
        for (String s : none) Bench.due("header " + s, b.header(s), -5);
        String[] misfits = {"INIT1", "INIT:IMM01", "SYST:ERR2:NEXT", "ROUT:CLOS0", "RANG1:AUTO2"};
        for (String s : misfits) Bench.due("header " + s, b.header(s), -6);
        String[] bad = {"", ":", "::INIT", "INIT:", "INIT::IMM", "INIT ", " INIT", "1INIT", "INIT?", "*IDN", "ABCDEFGHIJKLM",
            "INIT123", "INIT1A", "IN_IT", "INIT;", "INIT\n"};
        for (String s : bad) Bench.due("header " + s, b.header(s), -1);
    }

    private static void ownRows() {
        Bench b = new Bench();
        Bench.due("own of nothing", b.own(""), 37);
        Bench.due("own of blanks", b.own(" \n "), 37);
        Bench.due("own", b.own(":Aa[:Bb]:Cc#4? whole 1 2 1 truth 1;\n[:X]:Y!choice ON/OFf ;"), 39);
        int[][] due = {{3, 2, 2, 4}, {2, 1, 1, 0}};
        for (int c = 0; c < 2; c++) {
            for (int w = 0; w < 4; w++) Bench.due("command(" + (37 + c) + ", " + w + ")", b.house.command(37 + c, w), due[c][w]);
        }
        Bench.due("A:C", b.header("A:C"), 37);
        Bench.due("aa:cc4", b.header("aa:cc4"), 37);
        Bench.due("AA:BB:C04", b.header(":AA:BB:C04"), 37);
        Bench.due("A:C1", b.header("A:C1"), 37);
        Bench.due("A:C0", b.header("A:C0"), -6);
        Bench.due("A:C00", b.header("A:C00"), -6);
        Bench.due("A:C5", b.header("A:C5"), -6);
        Bench.due("A1:C", b.header("A1:C"), -6);
        Bench.due("A:B1:C1", b.header("A:B1:C1"), -6);
        Bench.due("Y", b.header("Y"), 38);
        Bench.due("X:Y", b.header("X:Y"), 38);
        Bench.due("X", b.header("X"), -5);
        Bench.due("more behind", b.own(":LONGword:ABCDefghijkl:C:D;"), 40);
        Bench z = new Bench();
        Bench.due("Z", z.own(":ZAz choice AZ/Zz;"), 38);
        Bench.due("zaz", z.header("zaz"), 37);
        Bench.due("four NODES", b.header("LONG:ABCDEFGHIJKL:C:D"), 39);
        Bench.due("a SUFFIX where one reading has it", b.own("[:P]:P#2[:P];"), 41);
        Bench.due("P2", b.header("P2"), 40);
        Bench.due("P:P2", b.header("P:P2"), 40);
        Bench.due("P2:P", b.header("P2:P"), 40);
        Bench.due("P:P2:P", b.header("P:P2:P"), 40);
        Bench.due("P2:P2", b.header("P2:P2"), -6);
        Bench.due("P:P:P2", b.header("P:P:P2"), -6);
        Bench.due("P:P:P:P", b.header("P:P:P:P"), -5);
    }

    private static void fault(String s, int place) {
        Bench.due("own " + s, new Bench().own(s), -10 - place);
    }

    private static void faultsOfTokens() {
        fault(":", 1);
        fault(":A", 2);
        fault(":A  ", 4);
        fault("A;", 0);
        fault(" ;", 1);
        fault("$", 0);
        fault(":A$", 2);
        fault(":A'", 2);
        fault(":a;", 1);
        fault(":ABCDE;", 1);
        fault(":AbcdefghijK;", 1);
        fault(":Abcdefghij;", 1);
        fault(":Aa1;", 3);
        fault(":A??;", 3);
        fault(":A?!;", 3);
        fault("[A];", 1);
        fault("[:A;", 3);
        fault("[:A#2]:B;", 3);
        fault(":A#;", 3);
        fault(":A# 2;:B#x;", 9);
        fault(":A Whole 1 2 1;", 3);
        fault(":A wholes 1 2 1;", 3);
        fault(":A whole 1 2;", 12);
        fault(":A whole 1 2", 12);
        fault(":A whole - ;", 11);
        fault(":A whole --1 2 1;", 10);
        fault(":A choice X;", 11);
        fault(":A choice X/;", 12);
        fault(":A choice X/y;", 12);
        fault(":A choice X Y;", 12);
        fault(":A truth;", 8);
        fault(":A truth 0?;", 10);
        fault(":A#2#3;", 4);
        fault(":A;:B", 5);
        fault(":A;;", 3);
    }

    private static void faultsOfNumbers() {
        fault(":A#1;", 3);
        fault(":A#5;", 3);
        fault(":A#-2;", 3);
        fault(":A#0000002;", 3);
        fault(":A whole 1234567 1 1;", 9);
        fault(":A whole 5 4 4;", 11);
        fault(":A whole -5 -6 -6;", 13);
        fault(":A whole 1 3 4;", 13);
        fault(":A whole 1 3 0;", 13);
        fault(":A whole 1 3 -1;", 14);
        fault(":A truth 2;", 9);
        fault(":A truth -1;", 10);
        Bench b = new Bench();
        Bench.due("the edges of numbers", b.own(":A#02 whole-999999 999999-999999;:B truth -0;:C whole 7 7 7;"), 40);
        b.house.instrument(0);
        Bench.due("first value", b.house.setting(0, 37, 2, 0), -999999);
        Bench.due("first value", b.house.setting(0, 38, 1, 0), 0);
        Bench.due("first value", b.house.setting(0, 39, 1, 0), 7);
    }

    private static void faultsOfLimits() {
        fault(":A:B:C:D:E;", 8);
        fault(":A:B:C:D[:E];", 8);
        fault("[:A][:B][:C]:D;", 8);
        fault(":A#2:B#2;", 6);
        fault(":A truth 0 truth 0 truth 0;", 19);
        fault(":A choice V/W/X/Y/Z;", 18);
        fault(":A choice V/W/X/Y/", 18);
        fault(":A choice ABc/ABC;", 14);
        fault(":A choice ABc/ABd;", 14);
        fault(":A choice A/B/Ab;", 14);
        fault(":A choice Ab/AB;", 13);
        fault("[:A];", 4);
        fault("[:A]?;", 4);
        fault("[:A]!;", 4);
        fault("[:A][:B] truth 0;", 9);
        fault("[:A]", 4);
        StringBuilder twenty = new StringBuilder();
        for (int k = 0; k < 20; k++) twenty.append(':').append((char) ('A' + k)).append(";\n");
        Bench b = new Bench();
        Bench.due("a 21st in one text", b.own(twenty + ":Z;"), -10 - 80);
        Bench.due("with a FAULT none comes", b.house.count(1), 37);
        Bench.due("20 OWN ones", b.own(twenty.toString()), 57);
        Bench.due("one more", b.own(" :Z;"), -11);
        Bench.due("none more", b.own("  "), 57);
        Bench.due("they are there", b.header("T"), 56);
        Bench all = new Bench();
        all.own(twenty.toString().replace(";", "#4 whole 0 9 0 whole 0 9 0;"));
        all.house.instrument(0);
        for (int k = 0; k < 80; k++) all.tell(0, (char) ('A' + k / 4) + "" + (1 + k % 4) + " " + k % 7 + "," + k % 5);
        for (int k = 0; k < 80; k++) {
            Bench.due("PARAMETER 0 of " + k, all.house.setting(0, 37 + k / 4, 1 + k % 4, 0), k % 7);
            Bench.due("PARAMETER 1 of " + k, all.house.setting(0, 37 + k / 4, 1 + k % 4, 1), k % 5);
        }
        Bench.due("command(57, 0)", b.house.command(57, 0), -1);
    }

    private static void twins() {
        fault(":INITiate;", 9);
        fault(":RANGe;", 6);
        fault(":SENS:RANG;", 10);
        fault(":SYSTem:ERRor:NEXT:FOO;:SYST[:A]:ERR;", 36);
        fault(":A#2;:A;", 7);
        fault("[:A]:B;:B;", 9);
        fault("[:A]:B;:A:B;", 11);
        fault(":A:B;[:A]:Bx;", 12);
        fault(":A[:B]:C;:A:B:C;", 15);
        Bench b = new Bench();
        Bench.due("no TWINS", b.own(":A:B;:A:C;:A;:A:B:C;:B:A;"), 42);
        Bench.due("TWINS of those before", b.own(":Aa:B;"), -10 - 5);
        Bench.due("no TWINS of those before", b.own(":A:Bb:Cc:D;"), 43);
        Bench.due("other forms", b.own(":INIT:IMMEdiat;"), 44);
        Bench.due("a LONG form in common", b.own(":INIT:IMMEdiate;"), -10 - 15);
    }

    private static void refusals() {
        Bench b = Bench.with(0);
        Bench.due("own with an INSTRUMENT", b.own(":A;"), GaugeHouse.STATE);
        Bench.due("and a FAULT", b.own("$"), GaugeHouse.STATE);
        Bench.due("nothing came", b.house.count(1), 37);
    }
}
