/** The boundary cases of part 1 and of promises 3 to 5: texts of OWN COMMANDS and where their FAULTS lie, HEADERS, command. */
public final class TableBoundsTest {
    private static final int BAD = GaugeHouse.BAD;

    public static void main(String[] args) {
        nodes();
        optionalNodes();
        lettersOfWords();
        suffixes();
        parameters();
        wholeNumbers();
        truths();
        wordsOfAChoice();
        likeWordsOfAChoice();
        twentyOwnOnes();
        textsThatEndTooEarly();
        behindALongerTape();
        blanks();
        twins();
        withAFaultNoneComes();
        headers();
        suffixesOfHeaders();
        calls();
        forms();
        Bench.end();
    }

    private static void good(String text, int lines) {
        Bench b = new Bench();
        Bench.due("own " + text, b.own(text), 37 + lines);
        Bench.due("COMMANDS", b.house.count(1), 37 + lines);
    }

    private static void fault(String text, int place) {
        Bench b = new Bench();
        Bench.due("own " + text, b.own(text), -10 - place);
        Bench.due("none comes", b.house.count(1), 37);
        Bench.due("used up", b.house.count(0), 0);
    }

    /** "a PATH of 1 to 4 NODES"; "a fifth NODE .. (at its : or [)" */
    private static void nodes() {
        good(":A;", 1);
        good(":A:B:C:D;", 1);
        good("[:A]:B[:C]:D;", 1);
        fault(":A:B:C:D:E;", 8);
        fault(":A:B:C:D [:E];", 9);
        fault("[:A][:B]:C:D:E;", 12);
        fault(":A:B:C#4:D :5", 11);
        fault(";", 0);
        fault("?;", 0);
        fault("!;", 0);
        fault("truth 0;", 0);
        fault("#2;", 0);
    }

    /** "some NODES are OPTIONAL, not all"; "a third OPTIONAL one"; "? ! or a parameter or ; behind NODES that are all OPTIONAL" */
    private static void optionalNodes() {
        good("[:A]:B;", 1);
        good(":A[:B];", 1);
        good("[:A][:B]:C;", 1);
        good("[:A]:B[:C];", 1);
        good(":A[:B][:C]:D;", 1);
        fault("[:A][:B][:C]:D;", 8);
        fault("[:A]:B[:C][:D];", 10);
        fault(":A[:B][:C] [:D];", 11);
        fault("[:A];", 4);
        fault("[:A] ?;", 5);
        fault("[:A]!;", 4);
        fault("[:A]truth 0;", 4);
        fault("[:A] choice X/Y;", 5);
        fault("[:A][:B];", 8);
        fault("[:A][:B]?;", 8);
        fault("[:A][:B]whole 1 2 1;", 8);
        fault("[:A]", 4);
        fault("[:A]#2;", 4);
        fault("[:A#2]:B;", 3);
        fault("[A]:B;", 1);
        fault("[:A:B];", 3);
        fault("[:A", 3);
        fault("[", 1);
        fault("]", 0);
    }

    /** "1 to 4 great letters, then 0 to 8 small ones"; "letters that are no WORD where one must be" */
    private static void lettersOfWords() {
        String[] words = {"A", "ABCD", "Ab", "Abcdefghi", "ABCDefghijkl", "ABCDe", "ABc"};
        String[] none = {"a", "abcd", "ABCDE", "ABCDEf", "Abcdefghij", "ABCDefghijklm", "AbC", "aB", "ABCDefghijkL"};
        for (String w : words) {
            good(":" + w + ";", 1);
            good("[:" + w + "]:QQ;", 1);
            good(":QQ choice QQ/" + w + ";", 1);
            Bench b = new Bench();
            b.own(":" + w + ";");
            Bench.due("its LONG form", b.header(w), 37);
            Bench.due("its SHORT form", b.header(w.replaceAll("[a-z]", "")), 37);
        }
        for (String w : none) {
            fault(":" + w + ";", 1);
            fault("[:" + w + "]:QQ;", 2);
            fault(":QQ choice " + w + "/RR;", 11);
            fault(":QQ choice QQ/" + w + ";", 14);
        }
        fault(":1;", 1);
        fault(":;", 1);
        fault("::A;", 1);
        Bench b = new Bench();
        b.own(":ABCDefghijkl;");
        Bench.due("letters between SHORT and LONG", b.header("ABCDE"), -5);
        Bench.due("letters between SHORT and LONG", b.header("ABCDEFGHIJK"), -5);
        Bench.due("below the SHORT form", b.header("ABC"), -5);
    }

    /** "SUFFIXES 1 .. s (s 2 to 4)"; "a number out of its bounds (at its digits: s ..)"; "a second #" */
    private static void suffixes() {
        for (int s = 2; s <= 4; s++) {
            Bench b = new Bench();
            Bench.due("s", b.own(":A#" + s + ";"), 38);
            Bench.due("s", b.house.command(37, 3), s);
            b.house.instrument(0);
        }
        good(":A # 000002;", 1);
        good(":A:B:C:D#4;", 1);
        good("[:A]:B#3;", 1);
        fault(":A#0;", 3);
        fault(":A#1;", 3);
        fault(":A#5;", 3);
        fault(":A# 999999;", 4);
        fault(":A#0000002;", 3);
        fault(":A#-2;", 3);
        fault(":A#x;", 3);
        fault(":A#;", 3);
        fault(":A#", 3);
        fault(":A#2#2;", 4);
        fault(":A#2:B#2;", 6);
        fault(":A#2:B:C:D #9;", 11);
        fault("#", 0);
    }

    /** "up to 2 PARAMETERS"; "a third parameter" */
    private static void parameters() {
        String[] kinds = {"whole 1 2 1", "truth 0", "choice X/Y"};
        for (String p : kinds) {
            for (String q : kinds) {
                Bench b = new Bench();
                Bench.due("two", b.own(":A " + p + " " + q + ";"), 38);
                Bench.due("PARAMETERS", b.house.command(37, 2), 2);
                for (String r : kinds) fault(":A " + p + " " + q + " " + r + ";", 5 + p.length() + q.length());
            }
            Bench b = new Bench();
            Bench.due("one", b.own(":A " + p + ";"), 38);
            Bench.due("PARAMETERS", b.house.command(37, 2), 1);
        }
        Bench b = new Bench();
        b.own(":A;");
        Bench.due("none", b.house.command(37, 2), 0);
        fault(":A truth 0 truth 1 nonsense;", 19);
        fault(":A Truth 0;", 3);
        fault(":A truths 0;", 3);
        fault(":A trut 0;", 3);
        fault(":A truth 0?;", 10);
        fault(":A??;", 3);
        fault(":A!?;", 3);
        fault(":A ? !;", 5);
    }

    /** "least, greatest, first value: -999999 to 999999"; "the greatest below the least; a first value not within"; "digits too many" */
    private static void wholeNumbers() {
        Bench b = new Bench();
        Bench.due("the edges", b.own(":A whole -999999 999999 -999999;:B whole -999999 999999 999999;:C whole 5 5 5;:D whole -0 0 00;:E whole -6 -5 -5;"), 42);
        b.house.instrument(0);
        long[] first = {-999999, 999999, 5, 0, -5};
        for (int k = 0; k < 5; k++) Bench.due("first value", b.house.setting(0, 37 + k, 1, 0), first[k]);
        Bench.due("the edges are told", b.ask(0, "A? MIN;A? MAX;E? MIN;E? MAX"), "-999999;999999;-6;-5\n");
        fault(":A whole 1000000 1 1;", 9);
        fault(":A whole 0000001 1 1;", 9);
        fault(":A whole -1000000 1 1;", 10);
        fault(":A whole 1 1000000 1;", 11);
        fault(":A whole 1 2 1000000;", 13);
        fault(":A whole 6 5 5;", 11);
        fault(":A whole -5 -6 -6;", 13);
        fault(":A whole 0 -1 0;", 12);
        fault(":A whole 2 4 1;", 13);
        fault(":A whole 2 4 5;", 13);
        fault(":A whole -4 -2 -5;", 16);
        fault(":A whole -4 -2 -1;", 16);
        fault(":A whole 2 4 - 3;", 15);
        good(":A whole - 4 - 2 - 3;", 1);
        fault(":A whole --4 2 2;", 10);
        fault(":A whole 1 2;", 12);
        fault(":A whole 1;", 10);
        fault(":A whole;", 8);
        fault(":A whole 1 2 1 1;", 15);
        fault(":A whole 1/2 1;", 10);
    }

    /** "of a TRUTH 0, 1" */
    private static void truths() {
        Bench b = new Bench();
        Bench.due("0 and 1", b.own(":A truth 0;:B truth 1;:C truth 000001;:D truth -0;"), 41);
        b.house.instrument(0);
        long[] first = {0, 1, 1, 0};
        for (int k = 0; k < 4; k++) Bench.due("first value", b.house.setting(0, 37 + k, 1, 0), first[k]);
        fault(":A truth 2;", 9);
        fault(":A truth -1;", 10);
        fault(":A truth 0000001;", 9);
        fault(":A truth;", 8);
        fault(":A truth ON;", 9);
        fault(":A truth 0 1;", 11);
    }

    /** "a CHOICE of 2 to 4 WORDS (the first one is first; they are 0, 1, ..)"; "a fifth WORD of a CHOICE (at it)" */
    private static void wordsOfAChoice() {
        String[] words = {"UP", "DOWN", "LEFT", "RIGHt"};
        for (int n = 2; n <= 4; n++) {
            StringBuilder text = new StringBuilder(":A choice UP");
            for (int k = 1; k < n; k++) text.append(" / ").append(words[k]);
            Bench b = new Bench();
            Bench.due(n + " WORDS", b.own(text + ";"), 38);
            b.house.instrument(0);
            Bench.due("the first one is first", b.house.setting(0, 37, 1, 0), 0);
            for (int k = n - 1; k >= 0; k--) {
                b.tell(0, "A " + words[k]);
                Bench.due("WORD " + k, b.house.setting(0, 37, 1, 0), k);
                Bench.due("its SHORT form", b.ask(0, "A?"), words[k].replaceAll("[a-z]", "") + "\n");
            }
            Bench.due("no ERROR", b.house.about(0, 3), 0);
            for (int k = n; k < 4; k++) Bench.due("none of it", b.errorsOf(0, "A " + words[k]), "-141");
        }
        fault(":A choice UP;", 12);
        fault(":A choice UP DOWN;", 13);
        fault(":A choice UP", 12);
        fault(":A choice;", 9);
        fault(":A choice UP/;", 13);
        fault(":A choice UP//DOWN;", 13);
        fault(":A choice A/B/C/D/E;", 18);
        fault(":A choice A/B/C/D/ E/F;", 19);
        fault(":A choice A/B/C/D/;", 18);
        fault(":A choice A/B/C/D/", 18);
        fault(":A choice A/B/C/D/A;", 18);
        fault(":A truth 0 choice A/B/C/D/E;", 26);
    }

    /** "one that has the LONG or SHORT form of another one of it (letters great or small are alike here)" */
    private static void likeWordsOfAChoice() {
        fault(":A choice UP/UP;", 13);
        fault(":A choice UPper/UP;", 16);
        fault(":A choice UP/UPper;", 13);
        fault(":A choice UPper/UPlow;", 16);
        fault(":A choice Upper/UPPEr;", 16);
        fault(":A choice Up/X/Y/UP;", 17);
        fault(":A choice X/ABcd/Y/ABCD;", 19);
        fault(":A choice X/ABCD/Y/Abcd;", 19);
        good(":A choice UP/UPPEr;", 1);
        good(":A choice UPper/UPPe;", 1);
        good(":A choice UP/DOWN choice UP/DOWN;", 1);
        good(":A choice UP/DOWN;:B choice UP/DOWN;", 2);
    }

    private static String letters(int from, int n, String behind) {
        StringBuilder s = new StringBuilder();
        for (int k = 0; k < n; k++) s.append(':').append((char) ('A' + from + k)).append(behind);
        return s.toString();
    }

    /** "OWN ones, 20 at most"; "the first TOKEN of a 21st OWN one" */
    private static void twentyOwnOnes() {
        good(letters(0, 20, ";"), 20);
        fault(letters(0, 21, ";"), 60);
        fault(letters(0, 20, ";") + "  [:Y]:Z;", 62);
        fault(letters(0, 20, ";") + "\n$", 61);
        fault(letters(0, 20, ";") + "x", 60);
        good(letters(0, 20, ";") + " \n ", 20);
        Bench b = new Bench();
        Bench.due("19", b.own(letters(0, 19, ";")), 56);
        Bench.due("two more", b.own(letters(19, 2, ";")), -10 - 3);
        Bench.due("none of them comes", b.house.count(1), 56);
        Bench.due("one more", b.own(letters(19, 1, ";")), 57);
        Bench.due("a 21st", b.own(letters(20, 1, ";")), -10);
        Bench.due("a 21st behind blanks", b.own("  " + letters(20, 1, ";")), -12);
        Bench.due("none", b.own(""), 57);
        Bench.due("blanks", b.own(" \n"), 57);
        Bench.due("the 20th", b.header("T"), 56);
        Bench.due("the 20th", b.house.command(56, 0), 1);
        Bench.due("no 21st", b.house.command(57, 0), BAD);
        Bench.due("no 21st", b.header("U"), -5);
        Bench all = new Bench();
        Bench.due("20", all.own(letters(0, 20, "#4 whole 0 9 1 truth 1;")), 57);
        all.house.instrument(0);
        all.tell(0, "T4 7,0;A1 3,0");
        Bench.due("the last SUFFIX of the last one", all.house.setting(0, 56, 4, 0), 7);
        Bench.due("its other PARAMETER", all.house.setting(0, 56, 4, 1), 0);
        Bench.due("the one before", all.house.setting(0, 56, 3, 0), 1);
        Bench.due("the first SUFFIX of the first one", all.house.setting(0, 37, 1, 0), 3);
        Bench.due("the next one", all.house.setting(0, 37, 2, 0), 1);
        Bench.due("of a built one", all.house.setting(0, 32, 1, 0), 32767);
    }

    /** "the text's length, if it ends too early" */
    private static void textsThatEndTooEarly() {
        String[] tokens = {":", "A", "#", "2", "[", ":", "B", "]", "?", "whole ", "-", "1 ", "2 ", "2 ", "choice ", "X", "/", "Y"};
        StringBuilder text = new StringBuilder();
        for (String t : tokens) {
            text.append(t);
            fault(text.toString(), text.length());
            fault(text + "  \n", text.length() + 3);
        }
        good(text + ";", 1);
        good("", 0);
        fault(":A;:", 4);
        fault(":A;:B", 5);
    }

    /** What THE TAPE had before, behind where it ends now, is not of the text. */
    private static void behindALongerTape() {
        String[][] cut = {{":B", ";"}, {":B#", "2;"}, {":B whole 1 2 ", "1;"}, {":B whole 1 2 1", ";"}, {":B truth ", "1;"}, {":B choice X", "/Y;"}, {":B choice X/", "Y;"}, {"[:B", "]:C;"}, {":", "B;"}};
        for (String[] c : cut) {
            Bench b = new Bench();
            Bench.due("own " + c[0] + c[1], b.own(c[0] + c[1]), 38);
            Bench.due("own " + c[0] + " behind it", b.own(c[0]), -10 - c[0].length());
        }
        Bench b = new Bench();
        b.own(":Q whole 1 9 12;");
        Bench.due("digits that end", b.own(":Q whole 1 9 1"), -10 - 14);
        String[][] headers = {{"INIT", ":CONT"}, {"INIT", "iate"}, {"INIT", "1"}, {"FETC", ":"}, {"FETC", "?"}, {"SYST:ERR", ":COUN"}};
        int[] due = {0, 0, 0, 9, 9, 35};
        for (int k = 0; k < headers.length; k++) {
            b.header(headers[k][0] + headers[k][1]);
            Bench.due("header " + headers[k][0] + " behind " + headers[k][0] + headers[k][1], b.header(headers[k][0]), due[k]);
        }
        b.header("INIT");
        Bench.due("a HEADER that ends", b.header("INIT:"), BAD);
        b.header("INIT:IMM");
        Bench.due("a HEADER that ends", b.header("INIT:"), BAD);
        b.header(":INIT");
        Bench.due("a HEADER that ends", b.header(":"), BAD);
        Bench.due("none", b.header(""), BAD);
    }

    /** "blanks (32, 10) between them as may be"; "what begins none" */
    private static void blanks() {
        good("\n : \n A # 2 [ : B ] ? whole - 1 1 0 choice X / Y ; \n", 1);
        int[] none = {0, 9, 11, 13, 31, '"', '$', '\'', '(', ',', '.', '+', '*', '_', '{', '@', 127, 128, 160, 255};
        for (int b : none) {
            String s = String.valueOf((char) b);
            fault(s, 0);
            fault(":A;" + s, 3);
            fault(":A" + s + ";", 2);
            fault(":A whole 1 2" + s + " 1;", 12);
        }
    }

    /** "the ; of a line with which TWINS are told: a row of words fits it and another one of THE TABLE or of the lines before" */
    private static void twins() {
        fault(":FETCh;", 6);
        fault(":FETC ;", 6);
        fault(":FETCh#2? truth 0 ;", 18);
        fault(":FETCH;", 1);
        good(":FET;", 1);
        fault(":SYSTem:ERRor:COUNt;", 19);
        fault(":A;:B;:A;", 8);
        fault(":A;:B;[:C]:A;:D;", 12);
        fault(":AB;:ABc;", 8);
        fault(":Ab;:Ac;", 7);
        good(":AB;:ABC;:ABCD;", 3);
        fault(":A[:B]:C;:A:C;", 13);
        fault(":A[:B]:C;:A:B:C;", 15);
        good(":A[:B]:C;:A:B;:B:C;:A:B:B:C;", 4);
        fault("[:A]:B[:C];[:D]:B;", 17);
        good(":A[:A];", 1);
        good("[:A]:A:A;", 1);
        fault(":A[:A];:A:A;", 11);
        Bench b = new Bench();
        b.own(":A;");
        Bench.due("of a text before", b.own(":A;"), -12);
        Bench.due("the first of two", b.own(":B;:A;"), -15);
        Bench.due("none of them came", b.header("B"), -5);
    }

    private static void withAFaultNoneComes() {
        Bench b = new Bench();
        Bench.due("a FAULT", b.own(":A truth 1;:B whole 0 9 7;:C"), -10 - 28);
        Bench.due("none", b.header("A"), -5);
        Bench.due("none", b.house.command(37, 0), BAD);
        Bench.due("they can be told again", b.own(":B whole 0 9 8;:A;"), 39);
        b.house.instrument(0);
        Bench.due("B", b.house.setting(0, 37, 1, 0), 8);
        Bench.due("A has none", b.house.setting(0, 38, 1, 0), GaugeHouse.NONE);
    }

    /** "words of 12 letters, 2 digits at most"; "BAD: it is no HEADER" */
    private static void headers() {
        Bench b = new Bench();
        String[] none = {"ABCDEFGHIJKL", "ABCDEFGHIJKL12", "ABCDEFGHIJKL:ABCDEFGHIJKL99", "A", ":A", "z9", "A:B:C:D", "A:B:C:D:E", "A:B:C:D:E:F:G:H", "INIT:IMM:IMM:IMM:IMM"};
        for (String s : none) Bench.due("header " + s, b.header(s), -5);
        String[] bad = {"", ":", "::", "::A", "A:", "A::B", "A:B:", "ABCDEFGHIJKLM", "A:ABCDEFGHIJKLM", "A123", "A:B123", "1", "A:1", ":1A", "A1B", "A 1", " A", "A ", "A\n", "A?", "A;",
            "*IDN", "A_", "[A]", "A\0", "\u00c1"};
        for (String s : bad) Bench.due("header " + s, b.header(s), BAD);
        String[] fits = {"STATUS:QUESTIONABLE:PTRANSITION", ":stat:ques:ptr", "StAt:QuEsTiOnAbLe:PtR"};
        for (String s : fits) Bench.due("header " + s, b.header(s), 32);
        Bench.due("the first", b.header("INITIATE"), 0);
        Bench.due("the last", b.header("SYST:ERR:COUN"), 36);
    }

    /** "a SUFFIX stands just where one may be, and is in its bounds (left out it is 1)"; "-6 but for its SUFFIX" */
    private static void suffixesOfHeaders() {
        Bench b = new Bench();
        b.own(":A#2;:B#4:C;:D:E#3[:F];");
        String[] fits = {"A", "A1", "A01", "A2", "A02", "B:C", "B1:C", "B4:C", "B04:C", "D:E", "D:E3", "D:E03:F", "D:E:F"};
        int[] due = {37, 37, 37, 37, 37, 38, 38, 38, 38, 39, 39, 39, 39};
        for (int k = 0; k < fits.length; k++) Bench.due("header " + fits[k], b.header(fits[k]), due[k]);
        String[] misfits = {"A0", "A00", "A3", "A03", "A99", "B0:C", "B5:C", "B:C1", "B2:C2", "D1:E", "D:E4", "D:E0", "D:E:F1", "D:E3:F0", "INIT1", "INIT:IMM1"};
        for (String s : misfits) Bench.due("header " + s, b.header(s), -6);
        String[] none = {"A2:C", "B4", "D3:F", "E3"};
        for (String s : none) Bench.due("header " + s, b.header(s), -5);
    }

    /** "Of a COMMAND: 0 .. 3 .. BAD." */
    private static void calls() {
        Bench b = new Bench();
        b.own(":A:B:C:D#4? truth 0 truth 0;");
        int[] due = {4, 2, 2, 4};
        for (int what = 0; what < 4; what++) Bench.due("command(37, " + what + ")", b.house.command(37, what), due[what]);
        int[] first = {2, 1, 0, 0};
        for (int what = 0; what < 4; what++) Bench.due("command(0, " + what + ")", b.house.command(0, what), first[what]);
        int[] noCommand = {-1, 38, 57, 99, 100, 112, Integer.MIN_VALUE, Integer.MAX_VALUE};
        int[] noWhat = {-1, 4, Integer.MIN_VALUE, Integer.MAX_VALUE};
        for (int c : noCommand) {
            for (int what = 0; what < 4; what++) Bench.due("command(" + c + ", " + what + ")", b.house.command(c, what), BAD);
        }
        for (int what : noWhat) Bench.due("command(37, " + what + ")", b.house.command(37, what), BAD);
    }

    /** "?: it can be ASKED alone, !: TOLD alone" */
    private static void forms() {
        Bench b = new Bench();
        b.own(":A;:B?;:C!;");
        for (int k = 0; k < 3; k++) Bench.due("FORMS", b.house.command(37 + k, 1), 3 - k);
        b.house.instrument(0);
        String[] messages = {"A", "A?", "B", "B?", "C", "C?"};
        String[] due = {"", "", "-113", "", "", "-113"};
        for (int k = 0; k < 6; k++) Bench.due("errors of " + messages[k], b.errorsOf(0, messages[k]), due[k]);
        Bench.due("0 without PARAMETERS", b.ask(0, "A?;B?"), "0;0\n");
    }
}
