public final class Example {
    public static void main(String[] args) {
        GaugeHouse house = new GaugeHouse();

        // an OWN COMMAND, as long as there is no INSTRUMENT: how many COMMANDS THE TABLE has then
        tape(house, ":OUTPut:LEVel#3 whole -50 50 7;");
        System.out.println(house.own());

        // a METER whose input is joined to SIGNAL 0, which is 0.5 at any TIME
        int meter = house.instrument(1);
        house.signal(0, 0, 500, 0, 1);
        house.wire(meter, 0, 0);

        // a MESSAGE of four UNITS, its END told with the last byte; READ? is HELD for a TICK
        tape(house, "OUTP:LEV2 12;LEV2?;LEV?;:READ?");
        house.send(meter, true);
        house.tick(1);
        StringBuilder answer = new StringBuilder();
        for (int b = house.take(meter); b > 10; b = house.take(meter)) answer.append((char) b);
        System.out.println(answer);

        // what has an ERROR: it is read by its number, the eldest first
        tape(house, "OUTP:LEV4 1");
        house.send(meter, true);
        System.out.println(house.error(meter, 0));

        // a TEST, which RUNS in up to 10 STEPS: the kind of its FAIL behind 100, THE ANSWER in thousandths
        tape(house, "send 0 'CALC:LIM:UPP 0.4;STAT ON'; ask 0 'READ?'; want 0 400;");
        int test = house.test();
        System.out.println(house.run(test, 10));
        System.out.println(house.result(0, 0));

        // two READINGS, one of which FAILED
        System.out.println(house.share(meter));
    }

    private static void tape(GaugeHouse house, String bytes) {
        for (int k = 0; k < bytes.length(); k++) house.feed(bytes.charAt(k), 1);
    }
}
