/** Promises 1, 2 and 32: a new object, the tape, the counts. */
public final class TapeTest {
    public static void main(String[] args) {
        newHouse();
        feeding();
        usedUp();
        Bench.end();
    }

    private static void newHouse() {
        GaugeHouse x = new GaugeHouse();
        int[] counts = {0, 37, 0, 0, 0, 0, 0, 0, GaugeHouse.BAD};
        for (int k = 0; k < counts.length; k++) Bench.due("count(" + k + ") of a new house", x.count(k), counts[k]);
        Bench.due("count(-1)", x.count(-1), GaugeHouse.BAD);
        Bench.due("BAD", GaugeHouse.BAD, -1);
        Bench.due("STATE", GaugeHouse.STATE, -2);
        Bench.due("FULL", GaugeHouse.FULL, -3);
        Bench.due("NONE", GaugeHouse.NONE, Long.MIN_VALUE);
    }

    private static void feeding() {
        GaugeHouse x = new GaugeHouse();
        Bench.due("feed of 0 bytes", x.feed(1, 0), GaugeHouse.BAD);
        Bench.due("feed of 9 bytes", x.feed(1, 9), GaugeHouse.BAD);
        Bench.due("feed of 1 byte", x.feed(0x1234, 1), 1);
        Bench.due("feed of 8 bytes", x.feed(-1, 8), 9);
        Bench.due("bytes on the tape", x.count(0), 9);
        for (int k = 0; k < 98; k++) x.feed(0, 8);
        Bench.due("feed up to 799", x.feed(0, 6), 799);
        Bench.due("feed beyond 800", x.feed(0, 2), GaugeHouse.FULL);
        Bench.due("what is refused changes nothing", x.count(0), 799);
        Bench.due("feed up to 800", x.feed(0, 1), 800);
        Bench.due("feed of a full tape", x.feed(0, 1), GaugeHouse.FULL);
        Bench.due("BAD comes ahead of FULL", x.feed(0, 0), GaugeHouse.BAD);
        Bench b = new Bench();
        b.house.feed(0x4142433A4142L, 6);
        Bench.due("the highest byte comes first", b.house.header(), -5);
        b.house.feed(0x46455443L, 4);
        Bench.due("the highest byte comes first", b.house.header(), 9);
    }

    private static void usedUp() {
        Bench b = new Bench();
        b.tape("FETC").house.header();
        Bench.due("header uses the tape up", b.house.count(0), 0);
        b.tape("?").house.header();
        Bench.due("header that is refused, too", b.house.count(0), 0);
        b.tape("x").house.send(0, true);
        Bench.due("send that is refused, too", b.house.count(0), 0);
        b.tape("x").house.test();
        Bench.due("test with a FAULT, too", b.house.count(0), 0);
        b.tape("x").house.own();
        Bench.due("own with a FAULT, too", b.house.count(0), 0);
        b.house.instrument(0);
        b.tape(":A;").house.own();
        Bench.due("own that is refused, too", b.house.count(0), 0);
        b.tape("*CLS").house.send(0, true);
        Bench.due("send uses the tape up", b.house.count(0), 0);
    }
}
