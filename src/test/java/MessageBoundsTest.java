/** The boundary cases of part 2: bytes, UNITS, HEADERS, all forms of data, and which ERROR comes where. */
public final class MessageBoundsTest {
    private static final String OWN = ":I;:N whole -999999 999999 0;:T truth 0;:C choice UP/DOWNward;:P whole 0 9 0 truth 0;"
        + ":W#2:X:Y:Z truth 0;:V whole 0 9 5 whole 0 9 5;";
    private static final int N = 38, T = 39, C = 40, P = 41, W = 42;
    private static final int NULL = 14, LOWER = 15, UPPER = 16;

    public static void main(String[] args) {
        white();
        unitsOfWhite();
        endsOfUnits();
        endToldWithAnyByte();
        beginnings();
        lettersOfHeaders();
        digitsOfSuffixes();
        starHeaders();
        behindHeaders();
        digitsOfNumbers();
        exponents();
        partsOfNumbers();
        bases();
        words();
        strings();
        blocks();
        blocksUpToTheEnd();
        lists();
        channelsOfLists();
        endsWhereMoreIsWanted();
        behindALongerUnit();
        valuesBehindALongerUnit();
        howManyData();
        howManyDataAsked();
        sorts();
        orderOfErrors();
        rounding();
        greatNumbers();
        realNumbers();
        unitsOfNumbers();
        truths();
        choices();
        standIns();
        wordsAhead();
        passedOver();
        justTheUnit();
        upToTheFirstTen();
        Bench.end();
    }

    private static Bench house() {
        return Bench.owning(OWN, 2);
    }

    private static void error(String message, String due) {
        Bench.due("errors of " + message, house().errorsOf(0, message), due);
    }

    /** The ERROR of each message, told behind the same bytes. */
    private static void each(String due, String ahead, String... messages) {
        for (String s : messages) error(ahead + s, due);
    }

    private static void value(int c, String message, long due) {
        Bench h = house();
        h.tell(0, message);
        Bench.due("setting by " + message, h.house.setting(0, c, 1, 0), due);
        Bench.due("no ERROR by " + message, h.house.about(0, 3), 0);
    }

    /** "WHITE are the bytes 0 to 9, 11 to 32." */
    private static void white() {
        for (int b = 0; b <= 255; b++) {
            if (b == 10 || b > 35 && b < 127) continue;
            char c = (char) b;
            Bench h = house();
            h.tell(0, c + "P" + c + "7" + c + "," + c + "1" + c);
            Bench.due("what byte " + b + " as WHITE sets", h.house.setting(0, P, 1, 0), b <= 32 ? 7 : 0);
            Bench.due("ERROR of byte " + b, h.errors(0), b <= 32 ? "" : "-101");
            if (b > 32) error("I" + c, "-103");
        }
        error("I\n\nI 5\n", "-108");
    }

    /** "A UNIT with WHITE alone is none." */
    private static void unitsOfWhite() {
        Bench h = house();
        h.tell(0, " ; \t;;\0;");
        h.part(0, "\n\n \n;\n");
        h.tell(0, " ");
        Bench.due("UNITS", h.house.count(5), 0);
        Bench.due("ERRORS", h.house.about(0, 3), 0);
        Bench.due("INPUT", h.house.about(0, 1), 0);
        h.tell(0, ";I;;I; ");
        Bench.due("UNITS", h.house.count(5), 2);
        h.tell(0, ",");
        Bench.due("any other byte makes one", h.house.count(5), 3);
    }

    /** "UNITS are parted by ;"; "a byte 10, or one with which the END is told"; "A UNIT is read as its end is there." */
    private static void endsOfUnits() {
        String[] ends = {"N 5;", "N 5\n"};
        for (String s : ends) {
            Bench h = house();
            h.part(0, s.substring(0, 3));
            Bench.due("its end is not there", h.house.setting(0, N, 1, 0), 0);
            Bench.due("UNITS", h.house.count(5), 0);
            h.part(0, s.substring(3));
            Bench.due("its end is there", h.house.setting(0, N, 1, 0), 5);
            Bench.due("UNITS", h.house.count(5), 1);
            Bench.due("INPUT", h.house.about(0, 1), 0);
        }
        String[] told = {"N 5", "N 5;", "N 5\n", "N 5 "};
        for (String s : told) {
            Bench h = house();
            h.tell(0, s);
            Bench.due("with the END", h.house.setting(0, N, 1, 0), 5);
            Bench.due("UNITS", h.house.count(5), 1);
            Bench.due("the MESSAGE is done", h.errorsOf(0, "*ESE 1"), "");
        }
    }

    /** The END can be told with any byte. */
    private static void endToldWithAnyByte() {
        int[] bytes = {0, 1, 10, 32, ';', '5', 127, 128, 255};
        for (int b : bytes) {
            Bench h = house();
            h.tell(0, "*TST?;" + (char) b);
            Bench.due("the MESSAGE ends with byte " + b, h.take(0), "0\n");
            h.tell(0, "FOO;x" + (char) b);
            h.tell(0, "N 5");
            Bench.due("what is passed over ends with byte " + b, h.house.setting(0, N, 1, 0), 5);
            h.tell(0, "DISP:TEXT 'a" + (char) b);
            h.tell(0, "N 6");
            Bench.due("a STRING ends with byte " + b, h.house.setting(0, N, 1, 0), 6);
        }
    }

    /** "-101 at the beginning of a unit .. or where data must begin" */
    private static void beginnings() {
        each("-101", "", "!", "1", "_", ",", "?", "'", "\"a\"", "(", "#", "#15abcde", "+", ".", "@", "~", "[", "`", "{", "/", "9");
        each("-101", "I;", "!", "1", ",", "?", "_");
        each("-113", "", "A", "z", "Q", "a", "Z");
        each("-101", "I ", ",", "!", "?", "_", ":", "@", ")", "*", "/", "[", "`", "{", ";N ,");
        each("-101", "I 1,", "", " ", ",", " ,2", "!", "_a");
        each("-108", "I ", "0", "9", "+1", "-1", ".1", "A", "Z", "a", "z", "''", "\"\"", "#10", "(@1)", "#H0");
    }

    /** "word: 1 to 12 letters"; "a 13th letter of a header's word .. -112" */
    private static void lettersOfHeaders() {
        each("-113", "", "ABCDEFGHIJKL", "ABCDEFGHIJKL?", "ABCDEFGHIJKL12", ":ABCDEFGHIJKL", "I:ABCDEFGHIJKL", "ABCDEFGHIJKL:I");
        each("-112", "", "ABCDEFGHIJKLM", "ABCDEFGHIJKLM?", "ABCDEFGHIJKLM12", ":ABCDEFGHIJKLM", "I:ABCDEFGHIJKLM", "ABCDEFGHIJKLM:I", "ABCDEFGHIJKLM_", "I;ABCDEFGHIJKLM");
        each("-103", "", "ABCDEFGHIJKL_", "ABCDEFGHIJK_L", "ABCDEFGHIJKL!");
        each("-101", "", "I:", "I::I", ":", "::I", "I:1", "I:_");
        each("-113", "", "I:I:I:I", "I:I:I:I:I", "A:B:C:D:E:F:G:H:I:J:K:L");
        each("-112", "", "A:B:C:D:E:F:G:H:I:J:K:ABCDEFGHIJKLM");
    }

    /** "then 0 to 2 digits"; "a third digit of a SUFFIX, too; a letter behind its digits -103" */
    private static void digitsOfSuffixes() {
        each("", "", "W:X:Y:Z 1", "W1:X:Y:Z 1", "W2:X:Y:Z 1", "W01:X:Y:Z 1", "W02:X:Y:Z?");
        each("-114", "", "W0:X:Y:Z 1", "W3:X:Y:Z 1", "W00:X:Y:Z 1", "W99:X:Y:Z 1", "W2:X2:Y:Z 1", "W:X:Y:Z1 1", "I1", "I01", "I99");
        each("-101", "", "W002:X:Y:Z 1", "W100:X:Y:Z 1", "W:X:Y:Z000", "I123", "I123A", "I;I123");
        each("-103", "", "W2A:X:Y:Z 1", "I1A", "I12A", "I1_", "I12?A");
        each("-113", "", "W2", "W2:X", "W9:Q");
    }

    /** "header: * and three letters"; "of * one the fourth letter" */
    private static void starHeaders() {
        each("", "", "*CLS", "*cls", "*Cls ", "*OPC?");
        each("-101", "", "*", "*C", "*CL", "*CL?", "*CL 1", "*C1S", "*1", "* CLS", "**CLS", "*:CLS", ":*CLS", "I:*CLS", "*_");
        each("-103", "", "*CLSX", "*CLS1", "*CLS:", "*CLS_", "*OPC??", "*OPC?X", "*CLS,");
        each("-113", "", "*XYZ", "*XYZ?", "*AAA", "*CLS?", "*TST", "*ZZZ 1,2,3");
    }

    /** "-103 behind a header" */
    private static void behindHeaders() {
        each("-103", "", "I_", "I,", "I'a'", "I\"a\"", "I(@1)", "I#11a", "I??", "I?5", "I?A", "I?:I", "I?'", "I+", "I.", "I-1", "I@");
        each("-101", "", "I ?", "I :I", "I: I", "I :", "I? ?");
        each("-108", "", "I 1", "I\t1", "I? 1", "I  'a' ");
    }

    /** "a number of more than 12 digits in all (0s in front, also behind the point, do not count ..) -124" */
    private static void digitsOfNumbers() {
        each("-108", "I ", "123456789012", "100000000000", "12345678901.2", "1.00000000000", ".123456789012", "0.123456789012", "-123456789012", "+0.000000123456789012",
            "0000000000123456789012", "000.000000000000000", "0000000000000", "00000000000001", "123456789012E99", "0.00000000000000000001", "123456789012.", "123456789012 V");
        each("-124", "I ", "1234567890123", "1000000000000", "12345678901.23", "1.000000000000", ".1234567890123", "0.1234567890123", "-1234567890123", "+0.0000001234567890123",
            "00000000001234567890123", "1234567890120", "123456789012.0", "1000000000000E5", "1234567890123E100", "1234567890123$", "1234567890123.4.5");
        each("-103", "I ", "123456789012$", "123456789012_", "123456789012+3");
    }

    /** "an exponent of more than 2 digits (0s, too) -123" */
    private static void exponents() {
        each("-108", "I ", "1E0", "1E9", "1E99", "1E-99", "1E+99", "1e00", "1 E 5", "1 E -05", "1\tE\t+05", "1.E5", ".1E5", "0E99");
        each("-123", "I ", "1E100", "1E000", "1E001", "1E-100", "1E+001", "1 E 005", "1E999V", "1E123$");
        each("-121", "I ", "1E+", "1E-", "1E+ 5", "1E+V", "1E--5", "1 E + 5", "1E-.5", "1E+,1");
        each("-131", "N ", "1E", "1 E", "1EV", "1E ", "1e");
        each("-103", "I ", "1E V", "1E5.0", "1E5E5", "1E5 5", "1E .5", "1E5+1");
        value(N, "N 5E4", 50000);
        value(N, "N 500000E-4", 50);
        value(N, "N 0.0000005 e +11", 50000);
    }

    /** "a NUMBER: [ + | - ] digits [ . [ digits ] ] or [ + | - ] . digits"; "-121 in a NUMBER" */
    private static void partsOfNumbers() {
        each("-108", "I ", "0", "+0", "-0", "1.", "+1.", "1.5", ".5", "-.5", "+.5", "1.V", "1V");
        each("-121", "I ", "+", "-", ".", "+.", "-.", "+ 1", "- 1", ". 5", "+A", "-,", "++1", "+-1", ".E5", ".V", "..5", "+'a'", "-(@1)");
        each("-103", "I ", "1..2", "1.2.3", "1 2", "1 .5", "1+", "1-1", "1:2", "1_", "1'a'", "1#11a", "1V1", "1 V V", "1V_", "1. 5");
    }

    /** "# and H, Q or B (or small) and digits of the base 16, 8, 2 (one at least)"; "-103 .. (a byte that is no digit of its base, behind such a NUMBER)" */
    private static void bases() {
        each("-108", "I ", "#H0", "#HF", "#hf", "#H9", "#HA", "#Ha", "#Q0", "#q7", "#B0", "#b1", "#H1 ", "#HFFFFFFFFFFFF", "#Q777777777777", "#B111111111111", "#H0000000000000F",
            "#B0000000000000000", "#Q0000777777777777");
        each("-121", "I ", "#H", "#HG", "#Hg", "#H ", "#H,", "#H-1", "#Q", "#Q8", "#Q9", "#QA", "#B", "#B2", "#B9", "#BA", "#H:", "#H/", "#H@", "#H`", "#Q:", "#B/");
        each("-103", "I ", "#HFG", "#H0g", "#Q78", "#Q7A", "#B12", "#B1 1", "#HF.1", "#HF V", "#HFV", "#B1E5", "#H1-", "#Q7/");
        each("-124", "I ", "#HFFFFFFFFFFFFF", "#Q7777777777777", "#B1111111111111", "#H1000000000000", "#B0001000000000000", "#H01234567890ABCG");
        each("-161", "I ", "#", "#A", "#G", "#I", "#-1", "#.", "#'", "# H1", "##", "#:", "#/", "#O7", "#X1");
        value(N, "N #HF423F", 999999);
        value(N, "N #Q3641077", 999999);
        value(N, "N #B11", 3);
        error("N #HF4240", "-222");
    }

    /** "a WORD: a letter, then letters, digits, _ ; 12 at most"; "a WORD of more than 12 -112" */
    private static void words() {
        each("-108", "I ", "A", "ABCDEFGHIJKL", "A_", "A1", "A__________1", "a23456789012", "ABCDEFGHIJKL ", "A,ABCDEFGHIJKL");
        each("-112", "I ", "ABCDEFGHIJKLM", "A___________1", "a234567890123", "ABCDEFGHIJKL_", "ABCDEFGHIJKL1", "A,ABCDEFGHIJKLM", "ABCDEFGHIJKLM$");
        each("-103", "I ", "A-", "A A", "A'a'", "ABCDEFGHIJKL$", "A.", "A(@1)", "A:B", "A@", "A[", "A`");
        each("-101", "I ", "_", "_A", "[A");
    }

    /** "a STRING: ' or \" and bytes up to the same, of which two on end within are one"; "-151 in a STRING (the END)" */
    private static void strings() {
        each("-108", "I ", "''", "\"\"", "''''", "'\"'", "\"'\"", "'a;b'", "'a''b'", "'#15'", "'\0\u00ff'");
        each("-151", "I ", "'", "\"", "'a", "'''", "'a''", "'a\"", "\"a'", "\"\"\"", "';I 5", "'#15", "1,'");
        each("-103", "I ", "'a'b", "''\"\"", "'a' 'b'", "'a'1", "'a'#11a");
        each("-151 -103", "I ", "'a\nb'", "\"\nI_");
        Bench h = house();
        h.tell(0, "DISP:TEXT '''';:N 5");
        Bench.due("two on end are one", h.ask(0, "DISP:TEXT?"), "\"'\"\n");
        Bench.due("what is behind", h.house.setting(0, N, 1, 0), 5);
        h.tell(0, "DISP:TEXT '#0;#15';:N 6");
        Bench.due("no BLOCK in a STRING", h.ask(0, "DISP:TEXT?"), "\"#0;#15\"\n");
        Bench.due("what is behind", h.house.setting(0, N, 1, 0), 6);
    }

    /** "a BLOCK: # and a digit d from 1 on, d digits, so many bytes, whatever they are"; "-161 in a BLOCK" */
    private static void blocks() {
        each("-108", "I ", "#10", "#11x", "#11;", "#11\n", "#11'", "#19123456789", "#200", "#201x", "#210123456789;", "#3001x", "#9000000001x", "#9000000000", "#10 , #11,");
        each("-161", "I ", "#1", "#1x", "#1 ", "#11", "#12x", "#2", "#21", "#21x", "#2x", "#2 1x", "#9", "#900000001", "#90000000x1", "#9000000001", "#9999999999x", "#299x");
        each("-103", "I ", "#10x", "#11xx", "#11x'a'", "#10#10", "#201x1");
        Bench h = house();
        h.house.lane(0, 0, 1, 5);
        h.tell(0, "TRAC:DATA #15;\n;'#;:N 5");
        Bench.due("neither ; nor 10 parts", h.house.setting(0, N, 1, 0), 5);
        Bench.due("the last of its bytes", h.house.get(0, 0, 1, 4), '#');
        Bench.due("no ERROR", h.house.about(0, 3), 0);
        Bench k = house();
        k.part(0, "$#13;\n");
        Bench.due("a BLOCK wherever it stands", k.house.about(0, 3), 0);
        k.part(0, ";");
        Bench.due("the last of its bytes", k.house.about(0, 3), 0);
        k.part(0, ";");
        Bench.due("behind it", k.house.error(0, 0), -101);
        Bench e = house();
        e.part(0, "I #2");
        e.part(0, "1;");
        Bench.due("no BLOCK without all its digits", e.house.error(0, 0), -161);
        Bench f = house();
        f.part(0, "I #10;");
        Bench.due("one of no bytes ends at once", f.house.error(0, 0), -108);
        Bench g = house();
        g.part(0, "#x12;");
        Bench.due("a # alone begins none", g.house.error(0, 0), -101);
    }

    /** "or #0 and all up to the END that is told (a byte 10 ends it not)" */
    private static void blocksUpToTheEnd() {
        for (int n = 0; n <= 3; n++) {
            Bench h = house();
            h.house.lane(0, 0, 1, n);
            Bench.due("no ERROR", h.errorsOf(0, "TRAC:DATA #0" + "\n;x".substring(0, n)), "");
            for (int k = 0; k < n; k++) Bench.due("item " + k, h.house.get(0, 0, 1, k), "\n;x".charAt(k));
        }
        Bench h = house();
        h.part(0, "I #0\n;\n;\n");
        Bench.due("it goes on", h.house.about(0, 1), 9);
        h.part(0, "\n");
        Bench.due("it goes on", h.house.about(0, 1), 10);
        h.tell(0, "\n");
        Bench.due("the END is told", h.house.about(0, 1), 0);
        Bench.due("one UNIT", h.errors(0), "-108");
    }

    /** "a LIST: ( @ then numbers (digits, 3 at most: the fourth cannot stand) or number : number (also falling), parted by , then )"; "-171 in a LIST" */
    private static void lists() {
        each("-108", "I ", "(@1)", "(@0)", "(@999)", "(@001)", "(@1:1)", "(@1:2)", "(@2:1)", "(@000:999)", "(@1,2:3,4)", "( @ 1 : 2 , 3 )", "(@1)\t");
        each("-171", "I ", "(", "( ", "(1)", "()", "(@", "(@ ", "(@)", "(@1", "(@1 ", "(@1,", "(@1,)", "(@,1)", "(@1:", "(@1:)", "(@:1)", "(@1:2:3)", "(@1::2)", "(@1,,2)", "(@1 2)",
            "(@0001)", "(@1234)", "(@1:1234)", "(@1,1234)", "(@-1)", "(@+1)", "(@1.0)", "(@A)", "(@@1)", "(@'1')", "(@1;2)", "(@1x", "(@#H1)");
        each("-103", "I ", "(@1)x", "(@1))", "(@1)(@2)", "(@1) 2", "(@1):2");
    }

    /** "1 to 8; else -222"; "more than 20 channels: -223 ahead of -222, in TOLD ones, too" */
    private static void channelsOfLists() {
        String[] heads = {"ROUT:CLOS ", "ROUT:CLOS? ", "ROUT:OPEN "};
        for (String s : heads) {
            each("", s, "(@1)", "(@8)", "(@008)", "(@1:8)", "(@8:1)", "(@1:8,8:1,1:4)", "(@1:8,1:8,1,2,3,4)");
            each("-222", s, "(@0)", "(@9)", "(@999)", "(@0:8)", "(@1:9)", "(@9:1)", "(@1,2,9)", "(@1:20)", "(@20:1)", "(@1:8,1:8,1,2,3,9)");
            each("-223", s, "(@1:8,8:1,1:5)", "(@1:8,1:8,1,2,3,4,5)", "(@1:21)", "(@21:1)", "(@0:20)", "(@0:999)", "(@999:0)", "(@1:8,1:8,1:4,9)", "(@9,1:8,1:8,1:4)");
        }
        Bench h = house();
        h.tell(0, "ROUT:CLOS (@8,7,4,3)");
        Bench.due("20 are told", h.ask(0, "ROUT:CLOS? (@1:8,8:1,1:4)"), "0,0,1,0,0,0,1,0,0,1,0,0,0,1,0,0,0,0,1,0\n");
        int closings = h.house.about(0, 10);
        Bench all = house();
        all.tell(0, "ROUT:CLOS (@1:8,8:1,4:3,6:7)");
        Bench.due("20 are closed in order", all.house.about(0, 9), 1 << 3 | 1 << 7);
        Bench.due("each of them", all.house.about(0, 10), 20);
        all.tell(0, "ROUT:OPEN (@1,1,1,1,1,1,1,1,1,1,1,1,1,1,1,1,1,1,1,7)");
        Bench.due("the 20th is opened", all.house.about(0, 9), 1 << 3);
        String[] refused = {"ROUT:CLOS (@1,9)", "ROUT:CLOS (@0,1)", "ROUT:CLOS (@1:8,1:8,1:5)", "ROUT:OPEN (@3,7,9)", "ROUT:OPEN (@0:20)"};
        for (String s : refused) {
            h.tell(0, s);
            Bench.due("none by " + s, h.house.about(0, 9), 1 << 3 | 1 << 7);
            Bench.due("nor is one closed", h.house.about(0, 10), closings);
        }
    }

    /** "The END where more is wanted: the same." */
    private static void endsWhereMoreIsWanted() {
        String[] messages = {"I:", ":", "*", "*CL", "I 1,", "I +", "I .", "I 1E+", "I #H", "I #", "I #1", "I #12", "I (", "I (@", "I (@1", "I (@1,", "I (@1:"};
        String[] due = {"-101", "-101", "-101", "-101", "-101", "-121", "-121", "-121", "-121", "-161", "-161", "-161", "-171", "-171", "-171", "-171", "-171"};
        for (int k = 0; k < messages.length; k++) {
            error(messages[k], due[k]);
            Bench h = house();
            h.part(0, messages[k] + ";");
            Bench.due("errors of " + messages[k] + ";", h.house.error(0, 0), messages[k].endsWith("#12") ? -1 : Integer.parseInt(due[k]));
            Bench i = house();
            i.part(0, messages[k] + "\n");
            Bench.due("errors of " + messages[k] + " and a 10", i.house.error(0, 0), messages[k].endsWith("#12") ? -1 : Integer.parseInt(due[k]));
        }
    }

    /** What a UNIT before had, where this one is at its END, is not of this one. */
    private static void behindALongerUnit() {
        String[][] cut = {{"I:", "I", "-101"}, {":", "I", "-101"}, {"*", "CLS", "-101"}, {"*C", "LS", "-101"}, {"*CL", "S", "-101"}, {"I 1,", "1", "-101"}, {"I 1,", "A", "-101"}, {"I 1, ", "'a'", "-101"},
            {"I +", "1", "-121"}, {"I .", "5", "-121"}, {"I -", ".5", "-121"}, {"I 1E+", "5", "-121"}, {"I #H", "F", "-121"}, {"I #B", "1", "-121"}, {"I #", "H1", "-161"}, {"I #", "10", "-161"},
            {"I #1", "0", "-161"}, {"I #2", "00", "-161"}, {"I #20", "0", "-161"}, {"I #11", "a", "-161"}, {"I #12a", "b", "-161"}, {"I (", "@1)", "-171"}, {"I (@", "1)", "-171"}, {"I (@1", ")", "-171"},
            {"I (@1,", "2)", "-171"}, {"I (@1:", "2)", "-171"}, {"I (@1", ",2)", "-171"}, {"I (@1", "2)", "-171"}, {"I (@1 ", ")", "-171"}, {"I ( ", "@1)", "-171"}, {"I 'a", "'", "-151"},
            {"I \"", "\"", "-151"}, {"I 'a''", "'", "-151"}, {"I", "?", ""}, {"I", "1", ""}, {"I", ":I", ""}, {"I", "X", ""}, {"I", " 1", ""}, {"I ", "1", ""}, {"I?", " 1", ""}, {"I?", "?", ""},
            {"*CLS", "X", ""}, {"*CLS", "?", ""}, {"*CLS", " 1", ""}, {"N 1", ",2", ""}, {"N 1 ", "2", ""}, {"N 1", "V", ""}, {"N 1", " V", ""}, {"N 1", "E100", ""}, {"N 1", ".x", ""},
            {"N 123456789012", "3", "-222"}, {"I ABCDEFGHIJKL", "M", "-108"}, {"ABCDEFGHIJKL", "M", "-113"}, {"C UP", "P", ""}, {"C DOWN", "w", ""}, {"T ON", "N", ""}, {"N MIN", "I", ""},
            {"DISP:TEXT ''", "'", ""}, {"ROUT:CLOS (@1)", ",", ""}, {"CALC:NULL 1M", "M", ""}, {"CALC:NULL 1", "X", ""},
            {"CALC:NULL 1M", "V", ""}, {"CALC:NULL 1K", "V", ""}, {"CALC:NULL 1V", "V", ""}, {"N 1E", "-5", "-131"}, {"N 1E", "+5", "-131"}, {"N 1E", "5", "-131"}, {"N 1E ", "5", "-131"}};
        // the blanks stand where the *CLS between both stands
        for (String[] c : cut) {
            Bench h = house();
            h.tell(0, "     " + c[0] + c[1]);
            Bench.due("errors of " + c[0] + " behind " + c[0] + c[1], h.errorsOf(0, "     " + c[0]), c[2]);
        }
    }

    private static void valuesBehindALongerUnit() {
        String[][] cut = {{"N 1", "2"}, {"N 1", ".9"}, {"N 1.", "9"}, {"N 1", "E3"}, {"N 1E0", "3"}, {"N 1 ", "E3"}, {"N #H1", "F"}, {"N #B1", "1"}, {"N .9", "E2"}, {"N 1E1", "1"}};
        long[] due = {1, 1, 1, 1, 1, 1, 1, 1, 1, 10};
        for (int k = 0; k < cut.length; k++) {
            Bench h = house();
            h.tell(0, cut[k][0] + cut[k][1]);
            h.tell(0, cut[k][0]);
            Bench.due(cut[k][0] + " behind " + cut[k][0] + cut[k][1], h.house.setting(0, N, 1, 0), due[k]);
        }
        String[][] reals = {{"CALC:NULL 1", "K"}, {"CALC:NULL 1M", "A"}, {"CALC:NULL 1", "M"}, {"CALC:NULL 1 ", "U"}};
        long[] thousandths = {1000, 1, 1000, 1000};
        for (int k = 0; k < reals.length; k++) {
            Bench h = house();
            h.tell(0, reals[k][0] + reals[k][1]);
            h.tell(0, reals[k][0]);
            Bench.due(reals[k][0] + " behind " + reals[k][0] + reals[k][1], h.house.setting(0, NULL, 1, 0), thousandths[k]);
        }
        Bench h = house();
        h.tell(0, "DISP:TEXT 'a''b'");
        h.tell(0, "DISP:TEXT 'a'");
        Bench.due("a STRING that ends", h.ask(0, "DISP:TEXT?"), "\"a\"\n");
        h.tell(0, "ROUT:CLOS (@1,2,3,7)");
        Bench.due("a LIST that ends", h.ask(0, "ROUT:CLOS? (@3)"), "1\n");
        Bench.due("a HEADER that ends", h.ask(0, "W2:X:Y:Z 1;:W:X:Y:Z?"), "0\n");
    }

    /** "2 data: too few -109, too many -108" */
    private static void howManyData() {
        each("-109", "", "N", "N ", "T", "C", "P", "P 1", "W:X:Y:Z", "*ESE", "*SRE ", "*SAV", "*RCL", "ROUT:CLOS", "ROUT:OPEN", "DISP:TEXT", "TRAC:DATA", "RANG", "CALC:NULL");
        each("", "", "N 1", "T 1", "C UP", "P 1,1", "I", "*ESE 1", "*CLS", "*OPC", "ROUT:CLOS (@1)", "DISP:TEXT ''", "ABOR");
        each("-108", "", "N 1,2", "T 1,1", "C UP,UP", "P 1,1,1", "I 1", "*ESE 1,2", "*CLS 1", "*OPC A", "*RST 0", "*WAI 1", "*TRG 1", "*SAV 1,1", "ROUT:CLOS (@1),(@2)", "DISP:TEXT '',''",
            "TRAC:DATA #10,#10", "ABOR 1", "INIT 1", "STAT:PRES 1");
        String many = "1" + ",1".repeat(30);
        each("-108", "", "I " + many, "N " + many, "P " + many, "I? " + many, "P 1,1," + many);
        each("-101", "", "P " + many + ",$", "I 1,2,3,4,");
    }

    /** "ASKED: none, or, with one PARAMETER that is WHOLE or REAL, MINimum, MAXimum, DEFault .. if part 9 has no others" */
    private static void howManyDataAsked() {
        each("", "", "N?", "N? MIN", "P?", "T?", "C?", "V?", "CALC:NULL?", "CALC:NULL? DEF", "ROUT:CLOS? (@1)", "DISP:TEXT?", "STAT:OPER:PTR? MAX", "*ESE?", "TRIG:TIM? MIN");
        each("-108", "", "N? MIN,MAX", "P? MIN", "T? MIN", "C? MIN", "V? MIN", "V? MIN,MAX", "W:X:Y:Z? DEF", "I? MIN", "CALC:NULL? MIN,MIN", "ROUT:CLOS? (@1),(@1)", "DISP:TEXT? ''",
            "*ESE? MIN", "*SRE? 1", "*IDN? 1", "*OPC? A", "FETC? MIN", "READ? 1", "SYST:ERR? 1", "STAT:OPER? 1", "CALC:LIM:FAIL? 0", "ARM:SOUR? DEF", "INIT:CONT? DEF");
        each("-109", "", "ROUT:CLOS?", "ROUT:CLOS? ");
    }

    /** "another sort than is wanted -104"; "a WORD that is none (of these three, of the CHOICE) -141" */
    private static void sorts() {
        String[] data = {"1", "#H1", "A", "'a'", "#11a", "(@1)"};
        String[] heads = {"N ", "T ", "C ", "N? ", "CALC:NULL ", "CALC:NULL? ", "ROUT:CLOS ", "ROUT:CLOS? ", "ROUT:OPEN ", "DISP:TEXT ", "TRAC:DATA ", "*ESE ", "*SAV "};
        String bad = "-104", none = "-141", good = "";
        String[][] due = {{good, good, none, bad, bad, bad}, {good, good, none, bad, bad, bad}, {bad, bad, none, bad, bad, bad}, {bad, bad, none, bad, bad, bad},
            {good, good, none, bad, bad, bad}, {bad, bad, none, bad, bad, bad}, {bad, bad, bad, bad, bad, good}, {bad, bad, bad, bad, bad, good}, {bad, bad, bad, bad, bad, good},
            {bad, bad, bad, good, bad, bad}, {bad, bad, bad, bad, "-221", bad}, {good, good, bad, bad, bad, bad}, {good, good, bad, bad, bad, bad}};
        for (int h = 0; h < heads.length; h++) {
            for (int d = 0; d < data.length; d++) error(heads[h] + data[d], due[h][d]);
        }
    }

    /** What is looked at first: how it is read, 1 its COMMAND, 2 how many data, 3 each one's sort, 4 each one's bounds. */
    private static void orderOfErrors() {
        String[] messages = {"FOO $", "FOO 'a", "I1 1,", "FOO 1,2,3", "I1 1,2,3", "P 'x'", "N 'x',1", "N? 1,2", "P 99,'x'", "V 99,A", "V 99,1V", "V 99,99", "V A,'x'", "V 'x',A", "V 1V,'x'", "V 1,10",
            "V 10,1", "V -1,'x'", "I1?", "FETC1", "INIT1?", "G1?"};
        String[] due = {"-101", "-151", "-101", "-113", "-114", "-109", "-108", "-108", "-104", "-141", "-131", "-222", "-141", "-104", "-131", "-222", "-222", "-104", "-114", "-114", "-114", "-113"};
        for (int k = 0; k < messages.length; k++) error(messages[k], due[k]);
        Bench h = house();
        h.tell(0, "V 1,10");
        Bench.due("none is set", h.house.setting(0, 43, 1, 0), 5);
        Bench plain = Bench.owning(OWN, 0);
        Bench.due("not this INSTRUMENT's", plain.errorsOf(0, "INIT 1"), "-113");
        Bench.due("with a SUFFIX", plain.errorsOf(0, "ROUT:CLOS1"), "-114");
    }

    /** "A WHOLE number is rounded to the nearest (halves away from 0 ..)" */
    private static void rounding() {
        String[] told = {"0.5", "0.4999", "-0.5", "-0.4999", "1.5", "2.5", "-2.5", "2.4999", "999999.4999", "-999999.4999", "4.99999999999", "45E-1", "44E-1", "5E-1", "49999999999E-11", "500000000000E-12",
            "499999999999E-12", "999999999999E-12", "1E-99", "-1E-99", "999999999999E-99", "123456789012E-6", "123456500000E-6", "0.0000000000000000005E18", "0.0000000000000000005E19"};
        long[] due = {1, 0, -1, 0, 2, 3, -3, 2, 999999, -999999, 5, 5, 4, 1, 0, 1, 0, 1, 0, 0, 0, 123457, 123457, 1, 5};
        for (int k = 0; k < told.length; k++) value(N, "N " + told[k], due[k]);
        for (int e = 12; e <= 40; e++) {
            Bench h = house();
            h.tell(0, "N 7;N 999999999999E-" + e);
            Bench.due("999999999999E-" + e, h.house.setting(0, N, 1, 0), e == 12 ? 1 : 0);
            h.tell(0, "CALC:NULL 7;NULL 999999999999E-" + e);
            Bench.due("999999999999E-" + e + " in thousandths", h.house.setting(0, NULL, 1, 0), e == 12 ? 1000 : e == 13 ? 100 : e == 14 ? 10 : e == 15 ? 1 : 0);
        }
        each("-222", "N ", "999999.5", "-999999.5", "1000000", "-1000000", "1E6", "99999950E-2", "0.0000000000000000005E26");
    }

    /** "above 10^12 in amount: -222" */
    private static void greatNumbers() {
        each("-222", "N ", "1E12", "-1E12", "1E13", "1E99", "-1E99", "999999999999", "999999999999E99", "#HFFFFFFFFFFFF", "0.000001E12", "1E18", "1E19", "1E20", "1844674407E10", "18446744073E9");
        each("-222", "CALC:NULL ", "1E9", "1E10", "1E99", "-1E99MA", "999999999999E99 MAV", "1844674407E10", "#HFFFFFFFFFFFF");
        value(N, "N 0E99", 0);
        value(N, "N 0.000000E99", 0);
        value(N, "N 0.00000000001E12", 10);
        value(N, "N 0.00000000000000000001E22", 100);
    }

    /** "A REAL is a number of thousandths, rounded so" */
    private static void realNumbers() {
        String[] told = {"1000", "1000.0004", "-1000.0004", "1K", "1.0000004K", "1000000M", "1000000000U", "0.001MA", "0.0005", "0.00049", "-0.0005", "0.5M", "0.49M", "500U", "499U", "-500UV", "499.999999999U", "0.0000000005MAV"};
        long[] due = {1000000, 1000000, -1000000, 1000000, 1000000, 1000000, 1000000, 1000000, 1, 0, -1, 1, 0, 1, 0, -1, 0, 1};
        for (int k = 0; k < told.length; k++) value(NULL, "CALC:NULL " + told[k], due[k]);
        each("-222", "CALC:NULL ", "1000.0005", "-1000.0005", "1000.001", "1.0000005K", "1000000.5M", "1000000500U", "0.0010000005MA", "1001");
        String[] lower = {"1E6", "-1E6", "1MA", "1000K", "1000000.0004", "-1000000.0004"};
        for (String s : lower) value(LOWER, "CALC:LIM:LOW " + s, s.startsWith("-") ? -1000000000 : 1000000000);
        each("-222", "CALC:LIM:LOW ", "1000000.0005", "-1000000.0005", "1000000.001", "1.0000000005MA", "1000.0000005K");
        for (String s : lower) value(UPPER, "CALC:LIM:UPP " + s, s.startsWith("-") ? -1000000000 : 1000000000);
        each("-222", "CALC:LIM:UPP ", "1000000.0005", "-1000000.0005", "1000000.001", "-1000000.001");
    }

    /** "its UNIT: [ MA | K | M | U ] V or one of these four alone (letters great or small)"; "a UNIT that cannot be -131" */
    private static void unitsOfNumbers() {
        String[] units = {"V", "v", "MAV", "mav", "MaV", "KV", "kv", "MV", "mv", "UV", "uV", "MA", "ma", "K", "k", "M", "m", "U", "u"};
        long[] due = {2000, 2000, 2000000000, 2000000000, 2000000000, 2000000, 2000000, 2, 2, 0, 0, 2000000000, 2000000000, 2000000, 2000000, 2, 2, 0, 0};
        for (int k = 0; k < units.length; k++) {
            boolean small = due[k] < 1000000000;
            if (small) value(LOWER, "CALC:LIM:LOW 2" + units[k], due[k]);
            else error("CALC:LIM:LOW 2" + units[k], "-222");
            if (small) value(LOWER, "CALC:LIM:LOW 2 " + units[k] + " ", due[k]);
            error("N 2" + units[k], "-131");
            error("T 2" + units[k], "-131");
            error("*ESE 2" + units[k], "-131");
        }
        value(LOWER, "CALC:LIM:LOW 5E-1MA", 500000000);
        value(LOWER, "CALC:LIM:LOW 5E1 mV", 50);
        each("-131", "CALC:NULL 1", "A", "E", "X", "VV", "VK", "MAVV", "KA", "KM", "MM", "UU", "MAA", "AV", "MVA", "KKV", "VA", "OHM", "MAK", " Q", "EV", "W", "L", "J", "N", "T");
    }

    /** "A TRUTH: ON, OFF, or a NUMBER, however great, that is not 0 when it is rounded (no UNIT)." */
    private static void truths() {
        String[] told = {"0", "0.4999", "-0.4999", "1E-99", "OFF", "off", "#H0", "0E99", "0.5", "-0.5", "1", "2", "-1", "1E99", "-1E99", "999999999999E99", "ON", "on", "#B1", "#HFFFFFFFFFFFF", "5E-1"};
        for (int k = 0; k < told.length; k++) {
            Bench h = house();
            h.tell(0, k < 8 ? "T 1" : "T 0");
            h.tell(0, "T " + told[k]);
            Bench.due("T " + told[k], h.house.setting(0, T, 1, 0), k < 8 ? 0 : 1);
            Bench.due("no ERROR", h.house.about(0, 3), 0);
        }
        each("-141", "T ", "O", "OF", "ONN", "OFFF", "TRUE", "MIN", "MAX", "DEF", "ON_");
        each("-131", "T ", "1V", "0V", "1E", "0 K");
    }

    /** "WORDS as data, too, each by its SHORT or LONG form" */
    private static void choices() {
        String[] down = {"DOWN", "down", "DOWNWARD", "downward", "DoWnWaRd"};
        for (String s : down) value(C, "C " + s, 1);
        value(C, "C up", 0);
        each("-141", "C ", "DOW", "DOWNW", "DOWNWAR", "DOWNWARDS", "U", "UPP", "UP_", "UP1", "DOWN_", "MIN", "MAX", "DEF", "ON");
        each("-104", "C ", "0", "1", "'UP'", "#H1");
    }

    /** "MINimum, MAXimum, DEFault: answers the least, the greatest, the first value, and sets nothing" */
    private static void standIns() {
        Bench h = Bench.owning(":A whole -7 9 2;", 1);
        h.tell(0, "A 5");
        Bench.due("ASKED", h.ask(0, "A? MIN;A? MAX;A? DEF;A? minimum;A? MAXIMUM;A? default;A?"), "-7;9;2;-7;9;2;5\n");
        Bench.due("ASKED", h.ask(0, "CALC:NULL 5;NULL? MIN;NULL? MAX;NULL? DEF;NULL?"), "-1000.000;1000.000;0.000;5.000\n");
        String[] told = {"MIN", "MAX", "DEF", "minimum", "Maximum", "dEFAULT"};
        long[] due = {-7, 9, 2, -7, 9, 2};
        for (int k = 0; k < told.length; k++) {
            h.tell(0, "A " + told[k]);
            Bench.due("A " + told[k], h.house.setting(0, 37, 1, 0), due[k]);
        }
        String[] none = {"MI", "MINI", "MINIMU", "MINIMUMS", "MA", "MAXI", "DE", "DEFA", "ON", "UP"};
        for (String s : none) {
            error("N " + s, "-141");
            error("N? " + s, "-141");
        }
        each("-104", "*", "ESE MIN", "SRE MAX", "SAV DEF", "RCL MIN");
        Bench p = Bench.owning(":B whole 1 9 2 whole 3 8 4;", 0);
        p.tell(0, "B MAX,MIN");
        Bench.due("of each", p.ask(0, "B?"), "9,3\n");
        p.tell(0, "B MIN,MAX");
        Bench.due("of each", p.ask(0, "B?"), "1,8\n");
    }

    /** "the first one of its MESSAGE but * ones"; "all but its last one (with those that stood for it ahead, and their SUFFIXES), and these" */
    private static void wordsAhead() {
        Bench h = house();
        Bench.due("three words ahead", h.errorsOf(0, "W2:X:Y:Z 1;Z 0;Z 1;*CLS;Z 1"), "");
        Bench.due("of that SUFFIX", h.house.setting(0, W, 2, 0), 1);
        Bench.due("not of another", h.house.setting(0, W, 1, 0), 0);
        each("-113", "", "W2:X:Y:Z 1;Y:Z 1", "W2:X:Y:Z 1;X:Y:Z 1", "W2:X:Y:Z 1;W2:X:Y:Z 1", "W2:X:Y:Z 1;A:B:C:D:E:F", "*CLS;Z 1", "W2:X:Y:Z 1\nZ 1", "W2:X:Y:Z 1;:Z 1", "I;Z 1");
        each("", "", "I;N 5;T 1;I", "W2:X:Y:Z 1;:I;N 5", "*CLS;I;*CLS;N 5", ";;I;;N 1", "STAT:OPER:ENAB 1;PTR 1;NTR 1;COND?;EVEN?");
        each("-114", "", "W2:X:Y:Z 1;Z2 1", "W2:X:Y:Z 1;Z1 1", "STAT:OPER:ENAB 1;PTR1 1");
        Bench s = house();
        Bench.due("an ERROR behind its COMMAND", s.errorsOf(0, "STAT:OPER:ENAB 99999;PTR 5"), "-222");
        Bench.due("leaves the words", s.house.setting(0, 27, 1, 0), 5);
        Bench.due("so does -440", s.errorsOf(0, "*IDN?;STAT:OPER:ENAB?;PTR 7"), "-440");
        Bench.due("it was set", s.house.setting(0, 27, 1, 0), 7);
        Bench.due("so does -213", s.errorsOf(0, "INIT;INIT:IMM;CONT 1"), "-213");
        Bench.due("it was set", s.house.setting(0, 1, 1, 0), 1);
    }

    private static void behind(String message, String error, long due) {
        Bench h = house();
        h.tell(0, message + ";:N 5;:T 1");
        Bench.due("ERROR of " + message, h.house.error(0, 0), Integer.parseInt(error));
        Bench.due("one ERROR of " + message, h.house.about(0, 3), 1);
        Bench.due("what is behind " + message, h.house.setting(0, N, 1, 0), due);
        h.tell(0, "N 6");
        Bench.due("the next MESSAGE", h.house.setting(0, N, 1, 0), 6);
    }

    /** "With an ERROR from -100 to -199 all that is behind in the MESSAGE is passed over" */
    private static void passedOver() {
        String[] messages = {"$", "I_", "N 'x'", "I 1", "N", "ABCDEFGHIJKLM", "FOO", "I1", "N +", "N 1E100", "N 1234567890123", "N 1V", "N A", "N #", "N (@"};
        String[] due = {"-101", "-103", "-104", "-108", "-109", "-112", "-113", "-114", "-121", "-123", "-124", "-131", "-141", "-161", "-171"};
        for (int k = 0; k < messages.length; k++) behind(messages[k], due[k], 0);
        behind("N '", "-151", 0);
    }

    /** "with another one just the UNIT" */
    private static void justTheUnit() {
        String[] messages = {"*TRG", "INIT;INIT", "INIT:CONT 1;:READ?", "TRAC:DATA #10", "N 1E9", "ROUT:CLOS (@9)", "ROUT:CLOS (@1:21)", "FETC?", "*RCL 0", "*IDN?;*TST?"};
        String[] due = {"-211", "-213", "-221", "-221", "-222", "-222", "-223", "-230", "-230", "-440"};
        for (int k = 0; k < messages.length; k++) behind(messages[k], due[k], 5);
    }

    /** "up to the first byte 10, or the END that is told, whatever it stands in" */
    private static void upToTheFirstTen() {
        String[] messages = {"FOO;'\n", "FOO;\"a;\n", "FOO;I #15ab\n", "FOO;#0\n", "FOO;I (@1\n", "FOO\n", "FOO;;;\n"};
        for (String s : messages) {
            Bench h = house();
            h.part(0, s + "N 7\n");
            Bench.due("what is behind " + s, h.house.setting(0, N, 1, 0), 7);
            Bench.due("one ERROR of " + s, h.errors(0), "-113");
            Bench i = house();
            i.part(0, s.substring(0, s.length() - 1));
            Bench.due("it is gone at once, or has not ended", i.house.about(0, 1), s.equals("FOO\n") ? 3 : 0);
            i.tell(0, " ");
            i.tell(0, "N 8");
            Bench.due("what is behind the END", i.house.setting(0, N, 1, 0), 8);
        }
    }
}
