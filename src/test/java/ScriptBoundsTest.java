/** The boundary cases of part 7 and of promises 28 to 31: texts of TESTS and where their FAULTS lie, STEPS, FAILS, RESULTS. */
public final class ScriptBoundsTest {
    private static final int BAD = GaugeHouse.BAD, FULL = GaugeHouse.FULL;
    private static final long NONE = GaugeHouse.NONE;

    public static void main(String[] args) {
        sixTests();
        sixtyStatements();
        eightBlocks();
        numbersOfStatements();
        numbersOfWants();
        words();
        strings();
        textsThatEndTooEarly();
        behindALongerTape();
        behindALongerAnswer();
        blanksAndOtherBytes();
        refusedRuns();
        stepsAtTheBound();
        spentInBlocks();
        hundredSteps();
        wants();
        wantsWithoutAnswers();
        fiftyWaits();
        instrumentsThatThereAreNot();
        bytesThatDoNotAllCome();
        checks();
        kindsOfFails();
        repeats();
        waits();
        answersAboveTheGreatest();
        answersThatAreNoNumbers();
        thirtyResults();
        latestRun();
        Bench.end();
    }

    private static void good(String text) {
        Bench.due("test " + text, new Bench().test(text), 0);
    }

    private static void fault(String text, int place) {
        Bench b = new Bench();
        Bench.due("test " + text, b.test(text), -10 - place);
        Bench.due("none comes", b.house.count(4), 0);
        Bench.due("used up", b.house.count(0), 0);
    }

    /** "6 at most"; "FULL" */
    private static void sixTests() {
        Bench b = new Bench();
        for (int k = 0; k < 6; k++) {
            Bench.due("a FAULT", b.test("wait 0;"), -15);
            Bench.due("TESTS", b.house.count(4), k);
            Bench.due("its number", b.test("raise " + (5 + k % 5) + ";"), k);
        }
        Bench.due("a seventh", b.test("wait 1;"), FULL);
        Bench.due("a seventh of nothing", b.test(""), FULL);
        Bench.due("TESTS", b.house.count(4), 6);
        for (int k = 0; k < 6; k++) Bench.due("TEST " + k, b.house.run(k, 1), 105 + k % 5);
        Bench.due("no seventh", b.house.run(6, 1), BAD);
    }

    /** "up to 60 STATEMENTS"; "the 61st STATEMENT" */
    private static void sixtyStatements() {
        for (int n = 58; n <= 60; n++) good("wait 1;".repeat(n));
        fault("wait 1;".repeat(61), 420);
        fault("wait 1;".repeat(60) + " check 0;", 421);
        fault("wait 1;".repeat(60) + "repeat 1{}", 420);
        fault("wait 1;".repeat(60) + "try{}", 420);
        fault("wait 1;".repeat(60) + "nonsense", 420);
        fault("wait 1;".repeat(60) + "}", 420);
        good("wait 1;".repeat(60) + " \n");
        good("repeat 2{" + "wait 1;".repeat(59) + "}");
        fault("repeat 2{" + "wait 1;".repeat(60) + "}", 9 + 59 * 7);
        good("try{" + "wait 1;".repeat(20) + "}fail 0{" + "wait 1;".repeat(20) + "}last{" + "wait 1;".repeat(19) + "}");
        fault("try{" + "wait 1;".repeat(20) + "}fail 0{" + "wait 1;".repeat(20) + "}last{" + "wait 1;".repeat(20) + "}", 4 + 140 + 8 + 140 + 6 + 19 * 7);
        good("try{}fail 1{}last{}".repeat(40));
        good("try{}".repeat(60));
        fault("try{}".repeat(61), 300);
        Bench b = new Bench();
        for (int k = 0; k < 6; k++) Bench.due("60 of each", b.test("wait 1;".repeat(60)), k);
    }

    /** "the { that lies in 8 others" */
    private static void eightBlocks() {
        good("repeat 1{".repeat(8) + "wait 1;" + "}".repeat(8));
        fault("repeat 1{".repeat(9) + "}".repeat(9), 80);
        good("try{".repeat(8) + "}".repeat(8));
        fault("try{".repeat(9) + "}".repeat(9), 35);
        good("try{".repeat(7) + "try{}fail 0{}last{}" + "}".repeat(7));
        fault("try{".repeat(8) + "repeat 1 {}" + "}".repeat(8), 41);
        fault("try{".repeat(7) + "try{}fail 0{repeat 1{}}" + "}".repeat(7), 28 + 20);
        fault("try{".repeat(7) + "try{}last{try{}}" + "}".repeat(7), 28 + 13);
        good("try{}last{".repeat(8) + "}".repeat(8));
        fault("try{}last{".repeat(8) + "try{}" + "}".repeat(8), 83);
        good("try{}fail 5{".repeat(8) + "}".repeat(8));
        fault("try{}fail 5{".repeat(8) + "try{}" + "}".repeat(8), 99);
        good("repeat 1{".repeat(8) + "}".repeat(8) + "repeat 1{".repeat(8) + "}".repeat(8));
    }

    private static void number(String ahead, int least, int greatest, String behind) {
        int at = ahead.length();
        good(ahead + least + behind);
        good(ahead + greatest + behind);
        good(ahead + ("000000" + least).substring(String.valueOf(least).length()) + behind);
        fault(ahead + ("0000000" + least).substring(String.valueOf(least).length()) + behind, at);
        if (least > 0) fault(ahead + (least - 1) + behind, at);
        fault(ahead + (greatest + 1) + behind, at);
        fault(ahead + "999999" + behind, at);
        fault(ahead + "1000000" + behind, at);
        fault(ahead + "-" + greatest + behind, at);
        fault(ahead + "x" + behind, at);
        fault(ahead + "'1'" + behind, at);
    }

    /** "i: 0 to 9; k of wait 1 to 20, of repeat 1 to 9, of raise 5 to 9, of fail 0 to 9"; "NUMBERS of up to 6 digits" */
    private static void numbersOfStatements() {
        number("send ", 0, 9, "'';");
        number("ask ", 0, 9, "'';");
        number("check ", 0, 9, ";");
        number("wait ", 1, 20, ";");
        number("repeat ", 1, 9, "{}");
        number("raise ", 5, 9, ";");
        number("try{}fail ", 0, 9, "{}");
    }

    /** "n: [ - ] NUMBER (of want the first may be above the second ..)" */
    private static void numbersOfWants() {
        good("want -999999 999999;");
        good("want 999999 -999999;");
        good("want 0 0;want - 5 - 000005;want-1-1;");
        fault("want 1000000 0;", 5);
        fault("want -1000000 0;", 6);
        fault("want 0 0000000;", 7);
        fault("want 0 -1000000;", 8);
        fault("want --1 0;", 6);
        fault("want 1;", 6);
        fault("want 1 2 3;", 9);
        fault("want 1,2;", 6);
        fault("want +1 2;", 5);
        fault("want 1 - ;", 9);
    }

    /** "words of letters, as long as can be (none with a great one can stand)" */
    private static void words() {
        String[] none = {"wai 1;", "waits 1;", "Wait 1;", "waiT 1;", "WAIT 1;", "waitwait 1;", "w 1;", "sends 0 '';", "asK 0 '';", "retry{}", "tr{}", "Try{}", "fail 0{}", "last{}"};
        for (String s : none) fault(s, 0);
        fault("try{}fails 0{}", 5);
        fault("try{}Fail 0{}", 5);
        fault("try{}lasT{}", 5);
        fault("try{}fail 0{}Last{}", 13);
        fault("try{}fail 0{}fail 0{}", 13);
        fault("try{}last{}last{}", 11);
        fault("try{}last{}fail 0{}", 11);
        fault("try{}fail{}", 9);
        fault("try 1{}", 4);
        fault("repeat{}", 6);
        good("wait1;send0'';repeat1{}try{}fail0{}last{}");
    }

    /** "STRINGS in ' without '" */
    private static void strings() {
        good("send 0 '';");
        good("send 0 'a\n;{}\"\0\u00ff';");
        good("send 0 '" + "x".repeat(700) + "';");
        fault("send 0 ''';", 9);
        fault("send 0 'a''b';", 10);
        fault("send 0 '", 7);
        fault("send 0 'abc", 7);
        fault("send 0 \"a\";", 7);
        fault("send 'a' 0;", 5);
        fault("send 0;", 6);
        fault("check 0 '';", 8);
    }

    /** "the first TOKEN that cannot stand"; the text's length, if it ends too early */
    private static void textsThatEndTooEarly() {
        String[][] texts = {{"send ", "0 ", "'a'", ";"}, {"ask ", "9 ", "''", ";"}, {"want ", "-", "1 ", "-", "2", ";"}, {"wait ", "5", ";"}, {"check ", "5", ";"}, {"raise ", "5", ";"},
            {"repeat ", "5", "{", "wait ", "1", ";", "}"}, {"try ", "{", "}"}, {"try{}fail ", "5", "{", "}"}, {"try{}last ", "{", "}"}};
        for (String[] tokens : texts) {
            StringBuilder s = new StringBuilder();
            for (int k = 0; k + 1 < tokens.length; k++) {
                s.append(tokens[k]);
                fault(s.toString(), s.length());
                fault(s + " \n ", s.length() + 3);
            }
            good(s + tokens[tokens.length - 1]);
        }
        good("");
        good(" \n ");
    }

    /** What THE TAPE had before, behind where it ends now, is not of the text. */
    private static void behindALongerTape() {
        String[][] cut = {{"wait 1", ";"}, {"wait ", "1;"}, {"send 0 'a", "b';"}, {"send 0 '", "';"}, {"send 0 'a'", ";"}, {"repeat 2{", "}"}, {"repeat 2", "{}"}, {"try", "{}"}, {"want 1 -", "1;"}, {"check ", "0;"}};
        for (String[] c : cut) {
            Bench b = new Bench();
            Bench.due("test " + c[0] + c[1], b.test(c[0] + c[1]), 0);
            int quote = c[0].equals("send 0 'a'") ? -1 : c[0].indexOf('\'');
            Bench.due("test " + c[0] + " behind it", b.test(c[0]), -10 - (quote < 0 ? c[0].length() : quote));
        }
        Bench b = new Bench();
        b.test("try{raise 5;}fail 0{}");
        Bench.due("what may be left out", b.test("try{raise 5;}"), 1);
        Bench.due("is not of it", b.house.run(1, 9), 105);
        b.test("wait 12;");
        b.test("wait 1;2;");
        Bench.due("nor is a STATEMENT", b.test("wait 1;"), 3);
        b.house.run(3, 9);
        Bench.due("STEPS", b.house.ran(0), 1);
    }

    private static void behindALongerAnswer() {
        Bench b = Bench.with(1);
        Bench.due("9.91E37", answer(b, "READ?"), 1000000000000L);
        Bench.due("9", answer(b, "*ESE 9;*ESE?"), 9000);
        Bench.due("128", answer(b, "*ESR?"), 128000);
        Bench.due("1", answer(b, "*OPC?"), 1000);
        Bench.due("-5.000", answer(b, "CALC:NULL -5;NULL?"), -5000);
        Bench c = Bench.with(1);
        Bench.due("-1000.000", answer(c, "CALC:NULL -1000;NULL?"), -1000000);
        Bench.due("0", answer(c, "*TST?"), 0);
        Bench.due("12", answer(c, "*ESE 12;*ESE?"), 12000);
        Bench.due("BENCH,1,0,0", answer(c, "*IDN?"), 0);
        Bench.due("7", answer(c, "*ESE 7;*ESE?"), 7000);
    }

    private static void blanksAndOtherBytes() {
        good("\n repeat \n 2 { \n wait \n 1 ; } \n");
        int[] bytes = {0, 9, 11, 13, 31, '!', '"', '#', '(', '+', ',', '.', '/', ':', '?', '@', '[', '_', 127, 160, 255};
        for (int b : bytes) {
            String s = String.valueOf((char) b);
            fault(s, 0);
            fault("wait 1;" + s, 7);
            fault("wait" + s + "1;", 4);
            fault("repeat 1{" + s + "}", 9);
        }
        String[] signs = {"{", "}", ";", "-", "5"};
        for (String s : signs) fault(s, 0);
    }

    /** "up to n (1 .. 100) STEPS"; "BAD" */
    private static void refusedRuns() {
        Bench b = new Bench();
        b.test("wait 1;raise 5;");
        b.house.run(0, 100);
        int[][] bad = {{0, 0}, {0, 101}, {0, -1}, {1, 1}, {-1, 1}, {6, 1}, {0, Integer.MIN_VALUE}, {0, Integer.MAX_VALUE}, {Integer.MIN_VALUE, 1}, {Integer.MAX_VALUE, 1}};
        for (int[] r : bad) {
            Bench.due("run(" + r[0] + ", " + r[1] + ")", b.house.run(r[0], r[1]), BAD);
            Bench.due("the latest RUN stays", b.house.ran(0) * 10 + b.house.ran(1), 21);
            Bench.due("no TICK", b.house.count(3), 1);
        }
        Bench.due("1", b.house.run(0, 1), 99);
        Bench.due("100", b.house.run(0, 100), 105);
    }

    private static String run(Bench b, String text, int bound) {
        b.test(text);
        int code = b.house.run(b.house.count(4) - 1, bound);
        return code + ": " + b.house.ran(0) + " " + b.house.ran(1) + " " + b.house.ran(2) + " " + b.house.ran(3);
    }

    private static void runs(String text, int bound, String due) {
        Bench.due("run of " + text + " up to " + bound, run(Bench.with(0, 1), text, bound), due);
    }

    /** "The STEP beyond the bound ends all (SPENT; no last is done)." */
    private static void stepsAtTheBound() {
        runs("", 1, "0: 0 0 0 0");
        runs("wait 1;", 1, "0: 1 0 0 0");
        runs("wait 1;wait 1;", 1, "99: 1 0 0 0");
        runs("wait 1;wait 1;", 2, "0: 2 0 0 0");
        runs("wait 1;raise 7;", 1, "99: 1 0 0 0");
        runs("wait 1;raise 7;", 2, "107: 2 1 0 0");
        runs("repeat 1{}", 1, "0: 1 0 0 0");
        runs("repeat 2{wait 1;}", 2, "99: 2 0 0 0");
        runs("repeat 2{wait 1;}", 3, "0: 3 0 0 0");
        runs("repeat 9{repeat 9{}}", 10, "0: 10 0 0 0");
        runs("repeat 9{repeat 9{}}", 9, "99: 9 0 0 0");
        runs("try{}", 1, "0: 1 0 0 0");
        runs("try{wait 1;}", 1, "99: 1 0 0 0");
        Bench b = new Bench();
        run(b, "wait 3;wait 5;", 1);
        Bench.due("the STEP beyond is not done", b.house.count(3), 3);
    }

    private static void spentInBlocks() {
        runs("try{wait 1;wait 1;}last{wait 1;}", 2, "99: 2 0 0 0");
        runs("try{wait 1;wait 1;}last{wait 1;}", 4, "0: 4 0 1 0");
        runs("try{wait 1;wait 1;}fail 0{wait 1;}", 2, "99: 2 0 0 0");
        runs("try{raise 5;}fail 5{wait 1;}last{wait 1;}", 2, "99: 2 1 0 0");
        runs("try{raise 5;}fail 5{wait 1;}last{wait 1;}", 4, "0: 4 1 1 0");
        runs("try{try{wait 1;wait 1;}last{}}last{}", 3, "99: 3 0 0 0");
        runs("try{wait 1;}last{}", 2, "0: 2 0 1 0");
        runs("try{try{wait 1;wait 1;}fail 0{}last{}}fail 0{}last{}", 3, "99: 3 0 0 0");
        runs("try{wait 1;}last{}wait 1;", 2, "99: 2 0 1 0");
    }

    private static void hundredSteps() {
        runs("repeat 9{" + "wait 1;".repeat(10) + "}" + "wait 1;".repeat(9), 100, "0: 100 0 0 0");
        runs("repeat 9{" + "wait 1;".repeat(10) + "}" + "wait 1;".repeat(10), 100, "99: 100 0 0 0");
        runs("repeat 9{" + "wait 1;".repeat(10) + "}" + "wait 1;".repeat(9), 99, "99: 99 0 0 0");
    }

    /** "FAILS by 3, if THE ANSWER is not from the first n to the second one (thousandths)" */
    private static void wants() {
        String[] wants = {"0 1000", "1000 1000", "1000 2000", "999 1001", "1001 2000", "0 999", "1001 999", "1001 1000", "1000 999", "-1000 1000", "-1000 -999", "-999999 999999"};
        int[] due = {0, 0, 0, 0, 103, 103, 103, 103, 103, 0, 103, 0};
        for (int k = 0; k < wants.length; k++) runs("ask 0 '*OPC?';want " + wants[k] + ";", 2, due[k] + ": 2 " + (due[k] == 0 ? 0 : 1) + " 0 1");
        runs("ask 1 'CALC:NULL -0.5;NULL?';want -500 -500;want -501 -499;want -499 0;", 9, "103: 4 1 0 1");
        runs("ask 1 'CALC:LIM:LOW 999.999;LOW?';want 999999 999999;", 9, "0: 2 0 0 1");
        runs("ask 1 'CALC:LIM:LOW 1000;LOW?';want -999999 999999;", 9, "103: 2 1 0 1");
    }

    /** "or there is none" */
    private static void wantsWithoutAnswers() {
        runs("want -999999 999999;", 9, "103: 1 1 0 0");
        runs("try{ask 0 '*CLS';}fail 2{}want -999999 999999;", 9, "103: 3 2 0 0");
        Bench b = Bench.with(0);
        Bench.due("one", run(b, "ask 0 '*TST?';want 0 0;", 9), "0: 2 0 0 1");
        Bench.due("none at the next RUN's beginning", run(b, "want 0 0;", 9), "103: 1 1 0 0");
    }

    /** "a TICK each time that it WAITS; with the 51st such, or UNTERMINATED, it FAILS by 2" */
    private static void fiftyWaits() {
        String[] settings = {"ARM:COUN 7;:APER 7", "ARM:COUN 5;:APER 10", "ARM:COUN 3;:APER 10;:TRIG:DEL 7", "ARM:COUN 9;:TRIG:COUN 9"};
        int[] ticks = {49, 50, 51, 81};
        for (int k = 0; k < 4; k++) {
            Bench b = Bench.with(1);
            b.tell(0, settings[k]);
            boolean comes = ticks[k] <= 50;
            Bench.due(ticks[k] + " TICKS", run(b, "ask 0 'READ?';", 9), comes ? "0: 1 0 0 1" : "102: 1 1 0 0");
            Bench.due("TIME", b.house.count(3), Math.min(50, ticks[k]));
            Bench.due("TIME of the RESULT", b.house.result(0, 1), comes ? ticks[k] : NONE);
            Bench.due("what HOLDS", b.house.about(0, 6), comes ? 0 : 2);
            Bench.due("ERRORS", b.house.about(0, 3), 0);
        }
        Bench b = Bench.with(1);
        Bench.due("of two answers in all", run(b, "ask 0 'ARM:COUN 5;:APER 5;:READ?;:READ?';ask 0 'APER 6;:READ?;:READ?';", 9), "102: 2 1 0 1");
        Bench.due("TIME", b.house.count(3), 100);
        Bench c = Bench.with(0);
        Bench.due("UNTERMINATED", run(c, "ask 0 '*CLS';", 9), "102: 1 1 0 0");
        Bench.due("its ERROR", c.house.error(0, 0), -420);
    }

    /** "send, ask, check of an INSTRUMENT that there is not: by 1" */
    private static void instrumentsThatThereAreNot() {
        String[] words = {"send % '*CLS';", "ask % '*TST?';", "check %;"};
        for (String w : words) {
            runs(w.replace("%", "1"), 9, "0: 1 0 0 " + (w.startsWith("ask") ? 1 : 0));
            runs(w.replace("%", "2"), 9, "101: 1 1 0 0");
            runs(w.replace("%", "9"), 9, "101: 1 1 0 0");
            Bench.due("none at all", run(new Bench(), w.replace("%", "0"), 9), "101: 1 1 0 0");
        }
    }

    /** "bytes that do not all come: by 2" */
    private static void bytesThatDoNotAllCome() {
        String[] words = {"send", "ask"};
        for (String w : words) {
            Bench b = Bench.with(1);
            b.tell(0, "APER 9;:INIT;*WAI");
            Bench.due("up to 80", run(b, "send 0 '" + ";".repeat(76) + "';", 9), "0: 1 0 0 0");
            Bench.due("INPUT", b.house.about(0, 1), 80);
            Bench.due("one more", run(b, w + " 0 ';';", 9), "102: 1 1 0 0");
            Bench c = Bench.with(1);
            c.tell(0, "APER 9;:INIT;*WAI");
            Bench.due("the last does not come", run(c, w + " 0 '" + ";".repeat(77) + "';", 9), "102: 1 1 0 0");
            Bench.due("no TICK", c.house.count(3), 0);
        }
        runs("send 0 '" + "x".repeat(300) + "';check 0;", 9, "104: 2 1 0 0");
    }

    /** "check: if INSTRUMENT i has ERRORS: they are gone, FAILS by 4" */
    private static void checks() {
        int[] counts = {0, 1, 10, 11};
        for (int n : counts) {
            Bench b = Bench.with(0, 0);
            for (int k = 0; k < n; k++) b.tell(0, "FOO");
            b.tell(1, "FOO");
            Bench.due(n + " ERRORS", run(b, "check 0;", 9), n == 0 ? "0: 1 0 0 0" : "104: 1 1 0 0");
            Bench.due("they are gone", b.house.about(0, 3), 0);
            Bench.due("those of another one stay", b.house.about(1, 3), 1);
            Bench.due("once more", run(b, "check 0;", 9), "0: 1 0 0 0");
        }
    }

    /** "what FAILS in its block goes to the block of fail, if that tells its kind, or 0"; "FAILED: 100 and the kind" */
    private static void kindsOfFails() {
        String[] fails = {"", "send 9 'x';", "ask 0 '*CLS';", "want 0 0;", "send 0 'FOO';check 0;", "raise 5;", "raise 6;", "raise 7;", "raise 8;", "raise 9;"};
        for (int kind = 1; kind <= 9; kind++) {
            int steps = kind == 4 ? 2 : 1;
            runs(fails[kind], 9, (100 + kind) + ": " + steps + " 1 0 0");
            for (int told = 0; told <= 9; told++) {
                boolean goes = told == 0 || told == kind;
                runs("try{" + fails[kind] + "}fail " + told + "{wait 1;}", 9, goes ? "0: " + (steps + 2) + " 1 0 0" : (100 + kind) + ": " + (steps + 1) + " 1 0 0");
            }
            runs("try{" + fails[kind] + "}last{wait 1;}", 9, (100 + kind) + ": " + (steps + 2) + " 1 1 0");
            runs("try{" + fails[kind] + "}last{raise 9;}", 9, "109: " + (steps + 2) + " 2 1 0");
        }
        runs("try{}fail 0{raise 5;}", 9, "0: 1 0 0 0");
        runs("try{raise 5;}fail 5{}last{}", 9, "0: 2 1 1 0");
        runs("try{raise 5;}fail 5{raise 5;}", 9, "105: 3 2 0 0");
        runs("try{raise 5;}fail 5{raise 6;}last{raise 7;}", 9, "107: 4 3 1 0");
    }

    /** "repeat: so often" */
    private static void repeats() {
        for (int n = 1; n <= 9; n++) {
            Bench b = new Bench();
            Bench.due("repeat " + n, run(b, "repeat " + n + "{wait 2;}", 99), "0: " + (n + 1) + " 0 0 0");
            Bench.due("TIME", b.house.count(3), 2 * n);
        }
        runs("repeat 9{raise 5;}", 99, "105: 2 1 0 0");
        runs("repeat 9{try{raise 5;}fail 5{}}", 99, "0: 19 9 0 0");
    }

    /** "wait: so many TICKS" */
    private static void waits() {
        int[] waits = {1, 2, 19, 20};
        for (int n : waits) {
            Bench b = Bench.with(1);
            b.tell(0, "INIT:CONT ON");
            run(b, "wait " + n + ";", 1);
            Bench.due("TIME", b.house.count(3), n);
            Bench.due("READINGS", b.house.about(0, 7), n);
        }
    }

    private static long answer(Bench b, String message) {
        b.test("ask 0 '" + message + "';");
        Bench.due("run of " + message, b.house.run(b.house.count(4) - 1, 1), 0);
        return b.house.result(0, 0);
    }

    /** "above 10^12 of these in amount that, with its sign" */
    private static void answersAboveTheGreatest() {
        Bench b = Bench.metering(1001);
        Bench.due("9.9E37", answer(b, "READ?"), 1000000000000L);
        b.house.signal(0, 0, -1001, 0, 1);
        Bench.due("-9.9E37", answer(b, "READ?"), -1000000000000L);
        b.house.signal(0, 3, 0, 0, 1);
        Bench.due("9.91E37", answer(b, "READ?"), 1000000000000L);
        Bench.due("1000000.000", answer(b, "CALC:LIM:LOW MAX;LOW?"), 1000000000);
        Bench.due("-1000000.000", answer(b, "CALC:LIM:LOW MIN;LOW?"), -1000000000);
        Bench c = Bench.owning(":A whole -999999 999999 0;", 0);
        Bench.due("999999", answer(c, "A MAX;A?"), 999999000);
        Bench.due("-999999", answer(c, "A MIN;A?"), -999999000);
    }

    /** "of more than 60 bytes, or of what is no NUMBER alone: 0" */
    private static void answersThatAreNoNumbers() {
        Bench b = Bench.owning(":A whole 0 9 5 whole 0 9 6;:C choice ON/OFF;", 2);
        String[] messages = {"*IDN?", "A?", "C?", "*OPC?;*OPC?", "ROUT:CLOS? (@1:2)"};
        for (String s : messages) Bench.due("the answer to " + s, answer(b, s), 0);
        Bench c = Bench.with(0);
        Bench.due("a NUMBER alone", answer(c, "*OPC?"), 1000);
        Bench.due("of 61 bytes", answer(c, "*OPC?;".repeat(31)), 0);
        Bench.due("of 79 bytes", answer(c, "*OPC?;".repeat(40)), 0);
        Bench.due("TAKEN", c.house.count(6), 2 + 62 + 80);
        Bench.due("RESULTS", c.house.ran(3), 1);
    }

    /** "the latest 30 of a RUN"; "RESULT k of the latest RUN, 0 the latest" */
    private static void thirtyResults() {
        int[] counts = {1, 29, 30, 31, 45, 60};
        for (int n : counts) {
            Bench b = Bench.with(1);
            b.house.wire(0, 0, 0);
            b.house.signal(0, 2, 0, 1, 1000);
            b.test("ask 0 'READ?';".repeat(n % 5) + fives(n / 5));
            Bench.due("run of " + n, b.house.run(0, 100), 0);
            int kept = Math.min(30, n);
            Bench.due("RESULTS that are kept", b.house.ran(3), kept);
            Bench.due("the latest", b.house.result(0, 0), n);
            Bench.due("its TIME", b.house.result(0, 1), n);
            Bench.due("the eldest", b.house.result(kept - 1, 0), n - kept + 1);
            Bench.due("its TIME", b.house.result(kept - 1, 1), n - kept + 1);
            Bench.due("beyond it", b.house.result(kept, 0), NONE);
            int[][] none = {{-1, 0}, {0, -1}, {0, 2}, {Integer.MIN_VALUE, 0}, {Integer.MAX_VALUE, 1}, {0, Integer.MAX_VALUE}, {0, Integer.MIN_VALUE}};
            for (int[] r : none) Bench.due("result(" + r[0] + ", " + r[1] + ")", b.house.result(r[0], r[1]), NONE);
        }
    }

    /** Asks five times as often as told, which may be more than a repeat can. */
    private static String fives(int n) {
        StringBuilder s = new StringBuilder();
        for (int left = n; left > 0; left -= 9) s.append("repeat ").append(Math.min(9, left)).append('{').append("ask 0 'READ?';".repeat(5)).append('}');
        return s.toString();
    }

    /** "Of the latest RUN: 0 .. 3 .. BAD." */
    private static void latestRun() {
        Bench b = Bench.with(0);
        Bench.due("a RUN", run(b, "try{ask 0 '*TST?';raise 5;}fail 5{raise 6;}last{wait 1;}", 9), "106: 5 2 1 1");
        int[] bad = {-1, 4, Integer.MIN_VALUE, Integer.MAX_VALUE};
        for (int what : bad) Bench.due("ran(" + what + ")", b.house.ran(what), BAD);
        b.house.tick(1);
        b.tell(0, "*CLS");
        b.test("}");
        for (int k = 0; k < 4; k++) Bench.due("ran(" + k + ")", b.house.ran(k), new int[] {5, 2, 1, 1}[k]);
        Bench.due("another", run(b, "", 9), "0: 0 0 0 0");
        Bench.due("no RESULT", b.house.result(0, 0), NONE);
    }
}
