/** Promise 7, part 2 of the terms: how UNITS are read, and which ERROR comes where. */
public final class MessageTest {
    private static final String OWN = ":A#3 whole -50 50 7 choice LOW/HIGHest;:B:C truth 0;:B:D whole -9 9 1;:G!;:H? whole 1 5 3;:I;:J choice UP/DOWN;";
    private static Bench b;

    public static void main(String[] args) {
        headers();
        numbers();
        otherData();
        commands();
        counts();
        sorts();
        bounds();
        values();
        paths();
        passedOver();
        lexing();
        Bench.end();
    }

    /** A new house, as an object is promised for 512 calls alone. */
    private static void renew() {
        b = new Bench();
        b.own(OWN);
        b.house.instrument(2);
        b.house.instrument(0);
    }

    private static void error(String message, String due) {
        renew();
        Bench.due("errors of " + message, b.errorsOf(0, message), due);
    }

    private static void headers() {
        String[] at101 = {"$", "1", "_A", ":", "::A", "A:", "A::B", "A:1", "A:?", "A123?", "*", "*I", "*ID", "*ID?", "*I1N", "?", " ,", "'x'",
            "#", "(@1)", "A: B"};
        for (String s : at101) error(s, "-101");
        String[] at103 = {"A2B 1", "*IDNX?", "*IDN5", "A_", "A,", "A'x'", "A#", "A??", "A?1", "A?,", "*IDN??", "A$", "A12B"};
        for (String s : at103) error(s, "-103");
        error("ABCDEFGHIJKLM", "-112");
        error("A:ABCDEFGHIJKLM?", "-112");
        error("ABCDEFGHIJKL", "-113");
        error(" \t\0\u0008I\u000b ", "");
        error(";; ; ;", "");
        error("I ", "");
        error("I\0", "");
    }

    private static void numbers() {
        String[] at121 = {"+", "-", ".", "+.", "+x", "- 1", ".E5", "1E+", "1E-x", "1 E + ", "1E+ 5", "#H", "#HG", "#Q8", "#B2", "#h,", "+-1"};
        for (String s : at121) error("I " + s, "-121");
        String[] at103 = {"1.2.3", "1_", "1+2", "1 2", "1E5.2", "1EE5", "1E5E3", "1V5", "1 V V", "#H1G", "#B12", "#Q18", "#HF V", "#HF.1", "1'x'",
            "1(@1)", "1E V", "1.5#", "1:2"};
        for (String s : at103) error("I " + s, "-103");
        error("I 123456789012", "-108");
        error("I 1234567890123", "-124");
        error("I 1234567890123x+", "-124");
        error("I 000000000000000000001234567890.12", "-108");
        error("I 1.000000000000", "-124");
        error("I 0.0000000000000000123456789012", "-108");
        error("I 0.00001234567890123", "-124");
        error("I 00000000000000", "-108");
        error("I #HFFFFFFFFFFFF", "-108");
        error("I #H1000000000000", "-124");
        error("I #B0000000111111111111", "-108");
        error("I #B1111111111111", "-124");
        error("I 1E99", "-108");
        error("I 1E100", "-123");
        error("I 1E005", "-123");
        error("I 1 e -05 mV", "-108");
        error("I 1.", "-108");
        error("I .5", "-108");
        error("I 1E", "-108");
        error("I 1 E", "-108");
    }

    private static void otherData() {
        String[] at101 = {",", "1,", "1,,2", "?", "$", "1, ", ":A", "@1", ")"};
        for (String s : at101) error("I " + s, "-101");
        error("I ABCDEFGHIJKL", "-108");
        error("I ABCDEFGHIJK_M", "-112");
        error("I A_1,b", "-108");
        error("I A-", "-103");
        String[] strings = {"'", "\"", "'a\"", "'a''", "\"\"\"", "'a\nb'"};
        for (String s : strings) {
            renew();
            Bench.due("the first error of I " + s, b.errorsOf(0, "I " + s).substring(0, 4), "-151");
        }
        error("I 'a''b;c'", "-108");
        error("I \"'\" , ''", "-108");
        error("I 'a'b", "-103");
        error("I 'a'\"b\"", "-103");
        String[] blocks = {"#", "#x", "##", "# 1", "#1", "#1x", "#2a", "#21", "#15abcd", "#9123456789x", "#1;"};
        for (String s : blocks) error("I " + s, "-161");
        error("I #13a;\n", "-108");
        error("I #10", "-108");
        error("I #10x", "-103");
        error("I #213a;\nb;\nc;\nd;\ne;, 5 ", "-108");
        error("I #0", "-108");
        error("I #0abc;\ndef\n", "-108");
        String[] lists = {"(", "(1)", "(@", "(@)", "(@1", "(@1,", "(@1,)", "(@,1)", "(@1:", "(@1:)", "(@1:2:3)", "(@0:1:2)", "(@1 2)", "(@1234)", "(@-1)", "(@1;2)",
            "(@a)", "(@1.2)"};
        for (String s : lists) error("I " + s, "-171");
        error("I (@1)", "-108");
        error("I ( @ 1 : 2 , 999:000 ) ", "-108");
        error("I (@1)x", "-103");
    }

    private static void commands() {
        error("FOO", "-113");
        error("*FOO", "-113");
        error("*IDN", "-113");
        error("*RST?", "-113");
        error("G?", "-113");
        error("H 1", "-113");
        error("I2", "-114");
        error("A4 1,LOW", "-114");
        error("A0?", "-114");
        error("G1?", "-114");
        error("FETC2", "-114");
        error("A2:C", "-113");
        Bench.due("a METER's of a PLAIN one", b.errorsOf(1, "INIT"), "-113");
        Bench.due("with a SUFFIX", b.errorsOf(1, "INIT2"), "-114");
        Bench.due("*TRG of a PLAIN one", b.errorsOf(1, "*TRG"), "-113");
        Bench m = Bench.with(1);
        Bench.due("a SCANNER's of a METER", m.errorsOf(0, "ROUT:OPEN (@1)"), "-113");
        Bench.due("a METER's of a METER", m.errorsOf(0, "INIT"), "");
        Bench.due("a BLOCK cannot be ASKED", m.errorsOf(0, "TRAC:DATA?"), "-113");
        Bench.due("nor with data", m.errorsOf(0, "TRAC:DATA? #11a"), "-113");
        Bench.due("nor behind *IDN?", m.errorsOf(0, "*IDN?;TRAC:DATA?"), "-113");
        Bench.due("nor with a SUFFIX", m.errorsOf(0, "TRAC:DATA1?"), "-114");
    }

    private static void counts() {
        String[] few = {"A", "A 1", "B:C", "RANG", "*ESE", "*SAV", "ROUT:CLOS", "ROUT:CLOS?", "ROUT:OPEN", "DISP:TEXT", "TRAC:DATA"};
        for (String s : few) error(s, "-109");
        String[] many = {"A 1,LOW,3", "G 1", "I? MAX", "A? MAX", "B:C? MAX", "B:D? MAX,MAX", "J? MAX", "*ESE 1,2", "*ESE? MAX", "*CLS 1", "*IDN? 1",
            "ROUT:CLOS? (@1),(@2)", "FETC? 1", "DISP:TEXT? 'a'", "SYST:ERR? 1", "ARM:SOUR? MAX", "INIT:CONT? MAX"};
        for (String s : many) error(s, "-108");
    }

    private static void sorts() {
        String[] at104 = {"A 'x',LOW", "A 1,2", "A 1,'LOW'", "A (@1),LOW", "B:C 'ON'", "B:C #11a", "B:D (@1)", "B:D? 1", "H? 2", "J 0", "*ESE MAX",
            "*SAV 'a'", "ROUT:CLOS 1", "ROUT:CLOS? 1", "DISP:TEXT abc", "DISP:TEXT #11a", "TRAC:DATA 'a'", "RANG #11a", "CALC:NULL 'x'", "CALC:NULL? 1"};
        for (String s : at104) error(s, "-104");
        String[] at131 = {"A 1V,LOW", "B:C 1V", "B:D 1 mV", "*ESE 1 V", "CALC:NULL 1X", "CALC:NULL 1MAVV", "CALC:NULL 1VM", "CALC:NULL 1E", "CALC:NULL 1 MM",
            "CALC:NULL 1KA", "CALC:NULL 1A", "RANG 1K"};
        for (String s : at131) error(s, "-131");
        String[] at141 = {"A X,LOW", "A 1,X", "A 1,HI", "A 1,HIGHes", "B:C YES", "B:D? MINI", "B:D ON", "J MAX", "B:C MAX", "H? LEAST", "ARM:SOUR TIM"};
        for (String s : at141) error(s, "-141");
        error("A 1V,5", "-131");
        error("A X,5", "-141");
        error("A 99,5", "-104");
    }

    private static void bounds() {
        String[] at222 = {"A 51,LOW", "A -50.5,LOW", "A 1E12,LOW", "B:D 9.5", "B:D -9.5", "B:D 1E99", "B:D #HA", "*ESE 256", "*ESE -1", "*SAV 3", "*RCL 2.5",
            "*SRE 255.5", "CALC:NULL 1000.0005", "CALC:NULL -1.1K", "RANG 7", "ROUT:CLOS (@0)", "ROUT:CLOS (@1,9)", "ROUT:OPEN (@9)", "ROUT:CLOS? (@1:9)",
            "DISP:TEXT '1234567890123'", "DISP:TEXT '\t'", "DISP:TEXT '\u007f'", "STAT:OPER:ENAB 32768", "TRIG:TIM 0"};
        for (String s : at222) error(s, "-222");
        error("ROUT:CLOS (@1:8,1:8,1:4)", "");
        error("ROUT:CLOS (@1:8,1:8,1:5)", "-223");
        error("ROUT:OPEN (@0:20)", "-223");
        error("ROUT:CLOS? (@999:1)", "-223");
        error("B:D 10;C 2;C 5V;C 1", "-222 -131");
    }

    private static void value(String command, int c, int suffix, int p, long due) {
        b.tell(0, command);
        Bench.due("setting by " + command, b.house.setting(0, c, suffix, p), due);
    }

    private static void values() {
        renew();
        value("A 12.5,HIGH", 37, 1, 0, 13);
        value("A 12.49,low", 37, 1, 0, 12);
        value("A -12.5,HIGHEST", 37, 1, 0, -13);
        value("A 1,highest", 37, 1, 1, 1);
        value("a03 +.5E1,LOW", 37, 3, 0, 5);
        value("A3 50.4999,LOW", 37, 3, 0, 50);
        value("A3 MIN,LOW", 37, 3, 0, -50);
        value("A3 maximum,LOW", 37, 3, 0, 50);
        value("A3 Def,LOW", 37, 3, 0, 7);
        value("A2 #h1F,LOW", 37, 2, 0, 31);
        value("A2 #q17,LOW", 37, 2, 0, 15);
        value("A2 #H9,LOW", 37, 2, 0, 9);
        value("A2 #H0f,LOW", 37, 2, 0, 15);
        value("A2 #H2F,LOW", 37, 2, 0, 47);
        value("A2 #Ha,LOW", 37, 2, 0, 10);
        value("A2 -5,LOW", 37, 2, 0, -5);
        value("A2 #H5,LOW", 37, 2, 0, 5);
        b.tell(0, "A2 1X,LOW");
        value("A2 #HA,LOW", 37, 2, 0, 10);
        value("A2 #B101,LOW", 37, 2, 0, 5);
        value("A2 123456789012E-10,LOW", 37, 2, 0, 12);
        value("A2 0.000000000000000000000001E25,LOW", 37, 2, 0, 10);
        value("A2 5 E 0,LOW", 37, 2, 0, 5);
        value("A2 9E-99,LOW", 37, 2, 0, 0);
        value("A2 0E99,LOW", 37, 2, 0, 0);
        Bench.due("the others stay", b.house.setting(0, 37, 1, 0), 1);
        Bench.due("one ERROR", b.errors(0), "-131");
        value("B:C ON", 38, 1, 0, 1);
        value("B:C off", 38, 1, 0, 0);
        value("B:C 0.5", 38, 1, 0, 1);
        value("B:C 0.49", 38, 1, 0, 0);
        value("B:C -1E99", 38, 1, 0, 1);
        value("B:C #H0", 38, 1, 0, 0);
        long[] thousandths = {1500, 1, -1, 0, 1000000, 20000, 20, 0, 20000, 5000, 250000, 3000, 3};
        String[] reals = {"1.5", "0.0005", "-.0005", "0.00049", "1kV", "20V", "20 mV", "20 UV", "0.00002MA", "0.000005mav", "0.25K", "3000 M", "3000u"};
        for (int k = 0; k < reals.length; k++) value("CALC:NULL " + reals[k], 14, 1, 0, thousandths[k]);
        value("CALC:NULL MIN", 14, 1, 0, -1000000);
        value("CALC:NULL #HA", 14, 1, 0, 10000);
        Bench.due("asked", b.ask(0, "CALC:NULL?;NULL? MIN;NULL? MAX;NULL? DEF;:B:D? MAX;:H?;H? MIN"), "10.000;-1000.000;1000.000;0.000;9;3;1\n");
        Bench.due("nothing is set", b.house.setting(0, 14, 1, 0), 10000);
        Bench.due("asked", b.ask(0, "A?;A2?;A3?;:B:C?;:I?;:J?;:CALC:NULL -0.5;NULL?;:ARM:SOUR?;:TRIG:SOUR TIMER;SOUR?"), "1,HIGH;0,LOW;7,LOW;0;0;UP;-0.500;IMM;TIM\n");
    }

    private static void paths() {
        error("B:C 1;D 1;:B:D 2;C 0;*CLS;D 3;C 1", "");
        error("B:C 1;B:D 1", "-113");
        error("B:C 1;:D 1", "-113");
        error("B:C 1\nD 1", "-113");
        error("*CLS;D 1", "-113");
        error("STAT:OPER:ENAB 1;PTR 1;:STAT:QUES:ENAB 1;NTR 1", "");
        error("SYST:ERR?;ERR:COUN?;NEXT?;COUN?", "");
        error("SYST:ERR?;COUN?", "-113");
        error("I;I;I;B:C 1;C 0", "");
        error("B:D 10;C 1", "-222");
        error("DISP:TEXT 'a';WIND:TEXT 'b';TEXT 'c'", "");
        Bench s = new Bench();
        s.own(":K#3:L truth 0;:K:M truth 0;");
        s.house.instrument(0);
        Bench.due("SUFFIXES ahead stay", s.errorsOf(0, "K2:L 1;L 1;M 1"), "-114");
        Bench.due("of the one", s.house.setting(0, 37, 2, 0), 1);
        Bench.due("and not of another", s.house.setting(0, 37, 1, 0), 0);
        Bench.due("a COMMAND with a new path", s.errorsOf(0, "K:M 1;L 1"), "");
        Bench.due("of the first", s.house.setting(0, 37, 1, 0), 1);
    }

    private static void passedOver() {
        error("FOO;BAR;*ESE 5;FOO", "-113");
        Bench.due("what is behind is not done", b.house.register(0, 2, 1), 0);
        error("FOO;B:C #15a\n$;$$;", "-113 -101");
        error("FOO;B:C '\nB:D 3", "-113");
        Bench.due("what is behind the 10 is done", b.house.setting(0, 39, 1, 0), 3);
        error("B:D 10;:B:C 1;:B:D 11;:B:D 4", "-222 -222");
        Bench.due("just the UNIT", b.house.setting(0, 39, 1, 0), 4);
        b.house.clear(0);
        b.part(0, "FOO;");
        b.part(0, "B:D 5;'\"#0");
        Bench.due("passed over at once", b.house.about(0, 1), 0);
        b.tell(0, "x");
        b.tell(0, "B:D 6");
        Bench.due("up to the END that is told", b.house.setting(0, 39, 1, 0), 6);
        b.errors(0);
        int units = b.house.count(5);
        b.tell(0, ";; I ;FOO;I;I");
        Bench.due("UNITS done", b.house.count(5) - units, 2);
        b.errors(0);
    }

    private static void lexing() {
        renew();
        b.part(0, "DISP:TEXT 'a;b");
        Bench.due("; in a STRING", b.house.about(0, 1), 14);
        b.part(0, "'; ");
        Bench.due("the end of a UNIT", b.house.about(0, 1), 1);
        b.house.clear(0);
        Bench.due("the STRING", b.ask(0, "DISP:TEXT?"), "\"a;b\"\n");
        b.part(0, "I #15\n;\n;");
        Bench.due("; and 10 in a BLOCK", b.house.about(0, 1), 9);
        b.part(0, "x;");
        Bench.due("the end of the BLOCK", b.house.about(0, 1), 0);
        b.house.clear(0);
        Bench.due("one UNIT", b.errors(0), "-108");
        b.part(0, "$#0\n;\n;");
        Bench.due("a BLOCK wherever it stands", b.house.about(0, 1), 7);
        b.tell(0, "\n");
        Bench.due("the END that is told", b.house.about(0, 1), 0);
        Bench.due("one UNIT", b.errors(0), "-101");
        b.part(0, "#2;#1\n#12;;;\n");
        Bench.due("no BLOCKS without their digits", b.errors(0), "-101 -101");
        b.house.clear(0);
        b.tell(0, "I;");
        b.tell(0, "I;\n");
        Bench.due("a ; ahead of the END", b.errors(0), "");
        b.tell(0, "I 'x;");
        Bench.due("the END is told in a STRING", b.errors(0), "-151");
    }
}
