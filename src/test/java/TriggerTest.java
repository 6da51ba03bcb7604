/** Promises 12, 13 and 16, part 5 of the terms: layers, DELAY, COUNT, TIMer, what is PENDING. */
public final class TriggerTest {
    public static void main(String[] args) {
        refusals();
        layers();
        counts();
        timer();
        continuous();
        busEvents();
        settingsWhenAsked();
        order();
        Bench.end();
    }

    private static void layer(Bench b, int due) {
        Bench.due("layer at TIME " + b.house.count(3), b.house.about(0, 4), due);
    }

    private static void made(Bench b, int due) {
        Bench.due("READINGS at TIME " + b.house.count(3), b.house.about(0, 7), due);
    }

    private static void refusals() {
        Bench b = Bench.with(0, 1);
        Bench.due("trigger of a PLAIN one", b.house.trigger(0), -1);
        Bench.due("trigger(2)", b.house.trigger(2), -1);
        Bench.due("trigger(-1)", b.house.trigger(-1), -1);
        Bench.due("tick(0)", b.house.tick(0), -1);
        Bench.due("tick(65)", b.house.tick(65), -1);
        Bench.due("tick(64)", b.house.tick(64), 64);
        Bench.due("tick(1)", b.house.tick(1), 65);
        Bench.due("TIME", b.house.count(3), 65);
        Bench.due("a PLAIN one's layer", b.house.about(0, 4), 0);
    }

    private static void layers() {
        Bench b = Bench.with(1);
        b.tell(0, "TRIG:DEL 2;:APER 3;:ARM:SOUR BUS;:TRIG:SOUR BUS");
        layer(b, 0);
        b.tell(0, "INIT");
        layer(b, 1);
        Bench.due("PENDING", b.house.about(0, 5), 1);
        b.house.tick(3);
        layer(b, 1);
        Bench.due("trigger", b.house.trigger(0), 2);
        Bench.due("trigger", b.house.trigger(0), 3);
        b.house.tick(1);
        layer(b, 3);
        b.house.tick(1);
        layer(b, 4);
        b.house.tick(2);
        layer(b, 4);
        made(b, 0);
        b.house.tick(1);
        layer(b, 0);
        made(b, 1);
        Bench.due("not PENDING", b.house.about(0, 5), 0);
        b.tell(0, "INIT;:ABOR");
        layer(b, 0);
        b.tell(0, "INIT;:INIT");
        Bench.due("INITiate of one that is not IDLE", b.errors(0), "-213");
        b.tell(0, "*RST");
        layer(b, 0);
    }

    private static void counts() {
        Bench b = Bench.with(1);
        b.tell(0, "ARM:COUN 3;:TRIG:COUN 2;:INIT");
        for (int k = 1; k <= 6; k++) {
            layer(b, 4);
            b.house.tick(1);
            made(b, k);
        }
        layer(b, 0);
        b.tell(0, "ARM:SOUR BUS;:INIT");
        for (int k = 0; k < 3; k++) {
            layer(b, 1);
            Bench.due("trigger", b.house.trigger(0), 4);
            b.house.tick(2);
        }
        layer(b, 0);
        made(b, 12);
        b.tell(0, "ARM:SOUR IMM;COUN 1;:TRIG:SOUR BUS;:INIT");
        layer(b, 2);
        Bench.due("trigger", b.house.trigger(0), 4);
        b.house.tick(1);
        layer(b, 2);
        Bench.due("trigger", b.house.trigger(0), 4);
        b.house.tick(1);
        layer(b, 0);
    }

    private static void timer() {
        Bench b = Bench.with(1);
        b.tell(0, "TRIG:SOUR TIM;TIM 5;COUN 3;:ARM:COUN 2;:APER 2;:INIT");
        int[] dueLayers = {4, 4, 2, 2, 2, 4, 4, 2, 2, 2, 4, 4, 4, 4, 2, 2, 2, 4};
        for (int t = 0; t < dueLayers.length; t++) {
            layer(b, dueLayers[t]);
            b.house.tick(1);
        }
        made(b, 4);
        b.tell(0, "*RST;:TRIG:SOUR TIM;TIM 2;COUN 2;DEL 3;:APER 4;:INIT");
        int[] slow = {3, 3, 3, 4, 4, 4, 4, 3, 3, 3, 4, 4, 4, 4, 0};
        for (int t = 0; t < slow.length; t++) {
            layer(b, slow[t]);
            b.house.tick(1);
        }
        b.tell(0, "*RST;:TRIG:SOUR TIM;TIM 5;COUN 2;:INIT");
        b.house.tick(2);
        layer(b, 2);
        b.house.trigger(0);
        Bench.due("nobody waits for the BUS", b.errors(0), "-211");
        layer(b, 2);
    }

    private static void continuous() {
        Bench b = Bench.with(1);
        b.tell(0, "INIT:CONT ON");
        layer(b, 4);
        Bench.due("not PENDING", b.house.about(0, 5), 0);
        b.house.tick(5);
        layer(b, 4);
        made(b, 5);
        b.tell(0, "INIT:CONT OFF");
        Bench.due("PENDING", b.house.about(0, 5), 1);
        b.house.tick(1);
        layer(b, 0);
        made(b, 6);
        b.tell(0, "ARM:SOUR BUS;:INIT;:INIT:CONT 1");
        layer(b, 1);
        b.house.trigger(0);
        b.house.tick(1);
        layer(b, 1);
        b.tell(0, "ABOR");
        layer(b, 1);
        b.tell(0, "*SAV 1;*RST;*RCL 1");
        layer(b, 1);
        b.tell(0, "*RST");
        layer(b, 0);
        Bench.due("INIT:CONT?", b.ask(0, "INIT:CONT?"), "0\n");
        Bench c = Bench.with(1);
        c.tell(0, "ARM:COUN 3;:INIT:CONT ON");
        c.house.tick(2);
        c.tell(0, "ABOR;:INIT:CONT OFF");
        c.house.tick(9);
        made(c, 5);
    }

    private static void busEvents() {
        Bench b = Bench.with(1);
        Bench.due("IDLE", b.house.trigger(0), 0);
        Bench.due("nobody waits", b.house.error(0, 0), -211);
        b.tell(0, "*CLS;*TRG");
        Bench.due("nobody waits", b.errors(0), "-211");
        b.tell(0, "ARM:SOUR BUS;:TRIG:SOUR BUS;:INIT;*TRG");
        layer(b, 2);
        b.tell(0, "*TRG");
        layer(b, 4);
        b.tell(0, "*TRG");
        Bench.due("in the READING", b.errors(0), "-211");
        b.house.tick(1);
        b.tell(0, "READ?");
        Bench.due("HELD", b.house.take(0), -4);
        b.house.trigger(0);
        b.house.trigger(0);
        Bench.due("HELD", b.house.take(0), -4);
        b.house.tick(1);
        Bench.due("the answer", b.take(0), "9.91E37\n");
    }

    private static void settingsWhenAsked() {
        Bench b = Bench.with(1);
        b.tell(0, "TRIG:COUN 5;:INIT");
        b.house.tick(2);
        b.tell(0, "TRIG:COUN 3");
        b.house.tick(5);
        made(b, 3);
        b.tell(0, "TRIG:COUN 9;:APER 4;:INIT;:APER 1");
        b.house.tick(3);
        made(b, 3);
        b.house.tick(2);
        made(b, 5);
        b.tell(0, "*RST;:TRIG:DEL 3;:INIT;:TRIG:DEL 0");
        b.house.tick(2);
        layer(b, 3);
        b.house.tick(1);
        layer(b, 4);
        b.tell(0, "*RST;:TRIG:SOUR BUS;:INIT");
        layer(b, 2);
        b.tell(0, "TRIG:SOUR IMM");
        layer(b, 4);
        b.house.tick(1);
        layer(b, 0);
        b.tell(0, "*RST;:ARM:SOUR BUS;:INIT:CONT ON;*TRG");
        b.house.tick(1);
        layer(b, 1);
        b.tell(0, "ARM:SOUR IMM");
        layer(b, 4);
        b.house.tick(1);
        layer(b, 4);
        b.tell(0, "*RST;:INIT;:INIT:CONT ON;CONT OFF");
        b.house.tick(1);
        layer(b, 0);
    }

    private static void order() {
        Bench b = Bench.with(1, 1, 1);
        b.tell(0, "READ?");
        b.tell(2, "APER 2;:READ?");
        b.house.tick(1);
        Bench.due("the first", b.take(0), "9.91E37\n");
        Bench.due("the third WAITS", b.house.take(2), -4);
        b.house.tick(1);
        Bench.due("the third", b.take(2), "9.91E37\n");
        b.tell(0, "READ?;READ?;READ?");
        b.house.tick(3);
        Bench.due("one TICK each", b.take(0), "9.91E37;9.91E37;9.91E37\n");
        made(b, 4);
    }
}
