/** Promises 28 to 31, part 7 of the terms: TESTS, their FAULTS, their RUNS. */
public final class ScriptTest {
    public static void main(String[] args) {
        faultsOfTokens();
        faultsOfLimits();
        full();
        refusals();
        steps();
        fails();
        blocks();
        spent();
        answers();
        numbers();
        waits();
        resultsKept();
        Bench.end();
    }

    private static void fault(String s, int place) {
        Bench.due("test " + s, new Bench().test(s), -10 - place);
    }

    private static void faultsOfTokens() {
        Bench.due("nothing", new Bench().test(""), 0);
        Bench.due("blanks", new Bench().test(" \n "), 0);
        Bench.due("all of it", new Bench().test("send 0'a;\n\"';ask9'';want-5 007;wait 20;check 0 ; raise 5;repeat 9{}try{}try{}fail 0{}try{}last{}try{}fail 9{}last{}"), 0);
        fault(";", 0);
        fault("Send 0 'a';", 0);
        fault("sendx 0 'a';", 0);
        fault("send", 4);
        fault("send x", 5);
        fault("send 10 'a';", 5);
        fault("send -1 'a';", 5);
        fault("send 0 a;", 7);
        fault("send 0 \"a\";", 7);
        fault("send 0 'a'", 10);
        fault("send 0 'a", 7);
        fault("send 0 '", 7);
        fault("ask 0 'a'; send 0 'b; wait 1;\n", 18);
        fault("repeat 3{ask 0 '", 15);
        fault("send 0 'a''", 10);
        fault("send 0 ", 7);
        fault("send 0 'a' 'b';", 11);
        fault("send 0 'a'}", 10);
        fault("check 'a", 6);
        fault("'a", 0);
        fault("want 1;", 6);
        fault("want 1 - ;", 9);
        fault("want 1 --2;", 8);
        fault("want 1234567 1;", 5);
        fault("wait 0;", 5);
        fault("wait 21;", 5);
        fault("wait -1;", 5);
        fault("raise 4;", 6);
        fault("raise 10;", 6);
        fault("repeat 0{}", 7);
        fault("repeat 10{}", 7);
        fault("repeat 1;", 8);
        fault("repeat 1{", 9);
        fault("repeat 1{wait 1}", 15);
        fault("repeat 1{};", 10);
        fault("}", 0);
        fault("{}", 0);
        fault("try fail 1{}", 4);
        fault("try{}fail{}", 9);
        fault("try{}fail 10{}", 10);
        fault("try{}fail -1{}", 10);
        fault("try{}last{}last{}", 11);
        fault("try{}last{}fail 1{}", 11);
        fault("try{}fail 1{}fail 1{}", 13);
        fault("fail 1{}", 0);
        fault("last{}", 0);
        fault("wait 1; $", 8);
        fault("wait 1;\twait 1;", 7);
    }

    private static void faultsOfLimits() {
        String sixty = "wait 1;".repeat(60);
        Bench.due("60 STATEMENTS", new Bench().test(sixty), 0);
        fault(sixty + " wait 1;", 421);
        fault("repeat 1{" + "wait 1;".repeat(59) + "raise 5;}", 9 + 59 * 7);
        Bench two = new Bench();
        two.test(sixty);
        Bench.due("60 more", two.test(sixty), 1);
        Bench.due("8 blocks", new Bench().test("repeat 1{".repeat(8) + "}".repeat(8)), 0);
        fault("repeat 1{".repeat(9) + "}".repeat(9), 8 * 9 + 8);
        Bench.due("side by side", new Bench().test("try{".repeat(8) + "}last{}".repeat(7) + "}fail 0{try{}}"), 0);
    }

    private static void full() {
        Bench b = new Bench();
        for (int k = 0; k < 6; k++) {
            Bench.due("a FAULT is none", b.test("}"), -10);
            Bench.due("test", b.test("wait 1;"), k);
        }
        Bench.due("a seventh", b.test("wait 1;"), -3);
        Bench.due("with a FAULT", b.test("}"), -3);
        Bench.due("count(4)", b.house.count(4), 6);
    }

    private static void refusals() {
        Bench b = new Bench();
        Bench.due("run(0, 1)", b.house.run(0, 1), -1);
        for (int k = 0; k < 4; k++) Bench.due("ran(" + k + ")", b.house.ran(k), 0);
        Bench.due("ran(4)", b.house.ran(4), -1);
        Bench.due("ran(-1)", b.house.ran(-1), -1);
        Bench.due("result(0, 0)", b.house.result(0, 0), GaugeHouse.NONE);
        b.test("wait 3;");
        Bench.due("run(1, 1)", b.house.run(1, 1), -1);
        Bench.due("run(-1, 1)", b.house.run(-1, 1), -1);
        Bench.due("run(0, 0)", b.house.run(0, 0), -1);
        Bench.due("run(0, 101)", b.house.run(0, 101), -1);
        Bench.due("nothing was done", b.house.count(3), 0);
        Bench.due("run(0, 100)", b.house.run(0, 100), 0);
        Bench.due("TIME", b.house.count(3), 3);
    }

    /** Runs a text on a house of a PLAIN one and a METER, and shows what came and what ran tells. */
    private static String run(Bench b, String s, int bound) {
        b.test(s);
        int code = b.house.run(b.house.count(4) - 1, bound);
        return code + ": " + b.house.ran(0) + " " + b.house.ran(1) + " " + b.house.ran(2) + " " + b.house.ran(3);
    }

    private static void runs(String s, int bound, String due) {
        Bench.due("run of " + s, run(Bench.with(0, 1), s, bound), due);
    }

    private static void steps() {
        runs("", 1, "0: 0 0 0 0");
        runs("wait 1;wait 1;", 2, "0: 2 0 0 0");
        runs("repeat 3{wait 1;}", 4, "0: 4 0 0 0");
        runs("repeat 9{}", 1, "0: 1 0 0 0");
        runs("repeat 3{repeat 2{wait 1;}}", 10, "0: 10 0 0 0");
        runs("try{wait 1;}fail 0{wait 1;}last{wait 1;}", 3, "0: 3 0 1 0");
        Bench b = Bench.with(0);
        run(b, "send 0 '*ESE 5';repeat 2{wait 4;}", 9);
        Bench.due("sent", b.house.register(0, 2, 1), 5);
        Bench.due("TIME", b.house.count(3), 8);
    }

    private static void fails() {
        runs("send 2 'x';", 9, "101: 1 1 0 0");
        runs("ask 9 'x';", 9, "101: 1 1 0 0");
        runs("check 2;", 9, "101: 1 1 0 0");
        runs("ask 0 '*CLS';", 9, "102: 1 1 0 0");
        runs("ask 0 '';", 9, "102: 1 1 0 0");
        runs("want 0 0;", 9, "103: 1 1 0 0");
        runs("ask 0 '*OPC?';want 1000 1000;want 1001 9999;", 9, "103: 3 1 0 1");
        runs("ask 0 '*OPC?';want 1001 999;", 9, "103: 2 1 0 1");
        runs("ask 0 '*OPC?';want -5 1000;check 0;", 9, "0: 3 0 0 1");
        runs("send 0 'FOO';check 0;", 9, "104: 2 1 0 0");
        runs("check 0;raise 9;wait 1;", 9, "109: 2 1 0 0");
        runs("repeat 5{raise 6;}", 9, "106: 2 1 0 0");
        Bench b = Bench.with(1);
        Bench.due("bytes that do not come", run(b, "send 0 'INIT;*WAI;                                                                           x';wait 1;", 9), "102: 1 1 0 0");
        Bench c = Bench.with(0);
        run(c, "send 0 'FOO';send 0 'FOO';check 0;", 9);
        Bench.due("they are gone", c.house.about(0, 3), 0);
        Bench.due("run", run(c, "send 0 '*SRE 4;FOO';try{check 0;}fail 4{}", 9), "0: 3 1 0 0");
        Bench.due("looked at behind the call", c.house.service(), 0);
        Bench.due("UNTERMINATED", run(c, "ask 0 '*CLS';", 9), "102: 1 1 0 0");
        Bench.due("its ERROR", c.house.error(0, 0), -420);
    }

    private static void blocks() {
        runs("try{raise 7;wait 1;}fail 7{wait 1;}wait 1;", 9, "0: 4 1 0 0");
        runs("try{raise 7;}fail 0{wait 1;}wait 1;", 9, "0: 4 1 0 0");
        runs("try{raise 7;}fail 6{wait 1;}wait 1;", 9, "107: 2 1 0 0");
        runs("try{raise 7;}", 9, "107: 2 1 0 0");
        runs("try{raise 7;}last{wait 1;}wait 1;", 9, "107: 3 1 1 0");
        runs("try{raise 7;}fail 7{raise 8;}last{wait 1;}", 9, "108: 4 2 1 0");
        runs("try{raise 7;}fail 7{raise 8;}last{raise 9;}", 9, "109: 4 3 1 0");
        runs("try{try{raise 5;}fail 6{}last{raise 6;}}fail 6{}last{}", 9, "0: 4 2 2 0");
        runs("try{try{raise 5;}last{wait 1;}}fail 5{try{wait 1;}last{}}last{wait 1;}wait 1;", 20, "0: 8 1 3 0");
        runs("repeat 3{try{raise 5;}fail 5{}}", 20, "0: 7 3 0 0");
        runs("try{want 0 0;}fail 3{}try{check 5;}fail 1{}", 20, "0: 4 2 0 0");
        runs("try{}fail 0{raise 5;}last{}", 20, "0: 1 0 1 0");
    }

    private static void spent() {
        runs("wait 1;wait 1;", 1, "99: 1 0 0 0");
        runs("try{wait 1;wait 1;}fail 0{}last{wait 1;}", 2, "99: 2 0 0 0");
        runs("try{raise 5;}fail 5{wait 1;}last{wait 1;}", 2, "99: 2 1 0 0");
        runs("try{wait 1;}last{wait 1;}", 2, "99: 2 0 1 0");
        runs("repeat 9{repeat 9{repeat 9{wait 1;}}}", 100, "99: 100 0 0 0");
        runs("repeat 1{".repeat(8) + "wait 1;" + "}".repeat(8), 100, "0: 9 0 0 0");
        runs("try{".repeat(8) + "raise 5;" + "}last{}".repeat(8), 100, "105: 9 1 8 0");
        runs("try{raise 5;}fail 5{".repeat(8) + "wait 1;" + "}".repeat(8), 100, "0: 17 8 0 0");
    }

    private static void answers() {
        Bench b = Bench.with(0, 1);
        b.house.signal(0, 2, 100, 7, 5);
        b.house.wire(1, 0, 0);
        Bench.due("run", run(b, "ask 1 'READ?';wait 2;try{ask 0 '*CLS';}fail 2{want 107 107;}ask 1 'READ?';ask 1 'APER 3;:READ?';", 20), "0: 7 1 0 3");
        long[][] due = {{114, 7}, {128, 4}, {107, 1}};
        for (int k = 0; k < 3; k++) {
            Bench.due("ANSWER " + k, b.house.result(k, 0), due[k][0]);
            Bench.due("TIME " + k, b.house.result(k, 1), due[k][1]);
        }
        Bench.due("result(3, 0)", b.house.result(3, 0), GaugeHouse.NONE);
        Bench.due("result(-1, 0)", b.house.result(-1, 0), GaugeHouse.NONE);
        Bench.due("result(0, 2)", b.house.result(0, 2), GaugeHouse.NONE);
        Bench.due("result(0, -1)", b.house.result(0, -1), GaugeHouse.NONE);
        int taken = b.house.count(6);
        b.test("ask 0 '*TST?;*TST?';");
        b.house.run(b.house.count(4) - 1, 5);
        Bench.due("bytes TAKEN", b.house.count(6) - taken, 4);
        Bench.due("of the latest RUN alone", b.house.ran(3), 1);
        Bench.due("no ANSWER of the RUN before", run(b, "want -999999 999999;", 9), "103: 1 1 0 0");
    }

    private static void number(String message, long due) {
        Bench b = Bench.with(2);
        run(b, "ask 0 '" + message + "';", 1);
        Bench.due("the number of the answer to " + message, b.house.result(0, 0), due);
    }

    private static void numbers() {
        number("*ESR?", 128000);
        number("*TST?;*TST?", 0);
        number("*IDN?", 0);
        number("ARM:SOUR?", 0);
        number("DISP:TEXT?", 0);
        number("READ?", 1000000000000L);
        number("CALC:NULL -0.0015;NULL?", -2);
        number("CALC:LIM:LOW MIN;LOW?", -1000000000);
        number("ROUT:CLOS? (@1)", 0);
        number("DISP:TEXT \"5\";TEXT?", 0);
        Bench b = Bench.with(1);
        b.house.signal(0, 0, -2000, 0, 1);
        b.house.wire(0, 0, 0);
        run(b, "ask 0 'READ?';", 1);
        Bench.due("-9.9E37", b.house.result(0, 0), -1000000000000L);
        Bench c = Bench.with(0);
        String many = "*TST?;".repeat(31);
        run(c, "ask 0 '" + many + "';", 1);
        Bench.due("more than 60 bytes", c.house.result(0, 0), 0);
    }

    private static void waits() {
        Bench b = Bench.with(1);
        Bench.due("50 TICKS", run(b, "ask 0 'ARM:COUN 5;:TRIG:DEL 0;:APER 10;:READ?';", 1), "0: 1 0 0 1");
        Bench.due("TIME", b.house.count(3), 50);
        Bench.due("51 are too many", run(b, "ask 0 'TRIG:DEL 1;:READ?';", 1), "102: 1 1 0 0");
        Bench.due("TIME", b.house.count(3), 100);
        Bench.due("it is HELD", b.house.about(0, 6), 2);
        Bench.due("it goes on", run(b, "wait 20;ask 0 '';", 5), "0: 2 0 0 1");
        Bench.due("no ERRORS", b.house.about(0, 3), 0);
    }

    private static void resultsKept() {
        Bench b = Bench.with(1);
        b.house.signal(0, 2, 0, 1, 1000);
        b.house.wire(0, 0, 0);
        Bench.due("run", run(b, "repeat 8{repeat 4{ask 0 'READ?';}}", 100), "0: 41 0 0 30");
        Bench.due("the latest", b.house.result(0, 0), 32);
        Bench.due("the eldest", b.house.result(29, 0), 3);
        Bench.due("its TIME", b.house.result(29, 1), 3);
        Bench.due("no more", b.house.result(30, 0), GaugeHouse.NONE);
    }
}
