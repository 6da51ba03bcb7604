/** Promises 10, 11, 17 and 18, part 4 of the terms: REGISTERS, ERRORS, SERVICE. */
public final class StatusTest {
    public static void main(String[] args) {
        refusals();
        atFirst();
        errors();
        eventRegister();
        filters();
        statusByte();
        serviceComes();
        serviceGoes();
        complete();
        preset();
        Bench.end();
    }

    private static void refusals() {
        Bench b = Bench.with(0);
        Bench.due("poll(1)", b.house.poll(1), -1);
        Bench.due("poll(-1)", b.house.poll(-1), -1);
        Bench.due("error(0, 0)", b.house.error(0, 0), -1);
        Bench.due("error(1, 0)", b.house.error(1, 0), -1);
        b.house.take(0);
        Bench.due("error(0, 0)", b.house.error(0, 0), -420);
        Bench.due("error(0, 1)", b.house.error(0, 1), -1);
        Bench.due("error(0, -1)", b.house.error(0, -1), -1);
        int[][] bad = {{1, 0, 0}, {-1, 0, 0}, {0, -1, 0}, {0, 3, 0}, {0, 0, -1}, {0, 0, 5}, {0, 2, 5}};
        for (int[] r : bad) Bench.due("register", b.house.register(r[0], r[1], r[2]), -1);
    }

    private static void atFirst() {
        Bench b = Bench.with(0, 1);
        int[][] due = {{0, 32767, 0, 0, 0}, {0, 32767, 0, 0, 0}, {128, 0, 0, 0, 0}};
        for (int i = 0; i < 2; i++) {
            for (int which = 0; which < 3; which++) {
                for (int part = 0; part < 5; part++) Bench.due("register " + which + " " + part, b.house.register(i, which, part), due[which][part]);
            }
        }
        Bench.due("service", b.house.service(), 0);
        Bench.due("poll", b.house.poll(0), 0);
    }

    private static void errors() {
        Bench b = Bench.with(0);
        b.tell(0, "*CLS");
        for (int k = 0; k < 10; k++) b.tell(0, k % 2 == 0 ? "FOO" : "*ESE 999");
        Bench.due("ten", b.house.about(0, 3), 10);
        Bench.due("the last", b.house.error(0, 9), -222);
        Bench.due("EVENT", b.house.register(0, 2, 0), 48);
        b.house.take(0);
        Bench.due("still ten", b.house.about(0, 3), 10);
        Bench.due("the last", b.house.error(0, 9), -350);
        Bench.due("the one before", b.house.error(0, 8), -113);
        Bench.due("EVENT", b.house.register(0, 2, 0), 48 + 8 + 4);
        b.tell(0, "$");
        Bench.due("the last", b.house.error(0, 9), -350);
        Bench.due("read", b.ask(0, "SYST:ERR?;ERR?;ERR:COUN?"), "-113;-222;8\n");
        b.tell(0, "$");
        Bench.due("put behind", b.house.error(0, 8), -101);
        Bench.due("behind -350", b.house.error(0, 7), -350);
        b.tell(0, "*CLS");
        Bench.due("none", b.house.about(0, 3), 0);
        Bench.due("none is 0", b.ask(0, "SYST:ERR?;ERR:NEXT?;COUN?"), "0;0;0\n");
    }

    private static void eventRegister() {
        String[] messages = {"FOO", "*ESE 256", "*IDN?;*TST?", "*OPC", "*TST?"};
        int[] bits = {32, 16, 4, 1, 0};
        for (int k = 0; k < messages.length; k++) {
            Bench b = Bench.with(0);
            Bench.due("*ESR?", b.ask(0, "*ESR?"), "128\n");
            b.ask(0, messages[k]);
            Bench.due("EVENT by " + messages[k], b.house.register(0, 2, 0), bits[k]);
            Bench.due("*ESR?", b.ask(0, "*ESR?;*ESR?"), bits[k] + ";0\n");
        }
    }

    private static void filters() {
        Bench b = Bench.with(1);
        b.tell(0, "ARM:SOUR BUS;:TRIG:SOUR BUS;DEL 1;:STAT:OPER:NTR 48;PTR 80;ENAB 32");
        b.tell(0, "INIT");
        Bench.due("CONDITION", b.house.register(0, 0, 0), 64);
        Bench.due("EVENT", b.ask(0, "STAT:OPER:COND?;:STAT:OPER?;:STAT:OPER:EVEN?"), "64;64;0\n");
        b.house.trigger(0);
        Bench.due("CONDITION", b.house.register(0, 0, 0), 32);
        Bench.due("EVENT of neither", b.house.register(0, 0, 3), 0);
        b.house.trigger(0);
        Bench.due("CONDITION in the DELAY", b.house.register(0, 0, 0), 0);
        Bench.due("EVENT of one that goes", b.house.register(0, 0, 3), 32);
        Bench.due("STATUS", b.house.register(0, 2, 2), 128);
        b.tell(0, "*CLS");
        b.house.tick(1);
        Bench.due("CONDITION in the READING", b.house.register(0, 0, 0), 16);
        Bench.due("EVENT of one that comes", b.house.register(0, 0, 3), 16);
        b.tell(0, "*CLS");
        b.house.tick(1);
        Bench.due("IDLE", b.house.register(0, 0, 0), 0);
        Bench.due("EVENT of one that goes", b.house.register(0, 0, 3), 16);
        b.tell(0, "*RST;*CLS;:STAT:OPER:PTR 0;NTR 32767;:TRIG:COUN 2;:INIT");
        Bench.due("*RST leaves the filters", b.house.register(0, 0, 4), 32);
        b.house.tick(1);
        Bench.due("what goes on at once is not looked at", b.house.register(0, 0, 3), 0);
        b.tell(0, "ABOR");
        Bench.due("IDLE is", b.house.register(0, 0, 3), 16);
        b.tell(0, "*CLS;:INIT;*ESE 0;*ESE 0");
        Bench.due("just once", b.house.register(0, 0, 3), 0);
        b.tell(0, "*CLS;:INIT:CONT ON;:ABOR");
        Bench.due("CONDITION", b.house.register(0, 0, 0), 16);
        Bench.due("IDLE is looked at ahead", b.house.register(0, 0, 3), 16);
        b.tell(0, "*CLS;*RST");
        Bench.due("*RST", b.house.register(0, 0, 3), 16);
        b.tell(0, "INIT;*CLS;:READ?");
        Bench.due("READ?", b.house.register(0, 0, 3), 16);
        b.house.tick(1);
        b.take(0);
        b.tell(0, "*SAV 0;:INIT;*CLS;*RCL 0");
        Bench.due("*RCL", b.house.register(0, 0, 3), 16);
        b.tell(0, "*CLS;:INIT:CONT ON;*SAV 0;*CLS;*RCL 0");
        Bench.due("*RCL of a CONTINUOUS one", b.house.register(0, 0, 3), 16);
        Bench.due("it goes on", b.house.register(0, 0, 0), 16);
        b.tell(0, "INIT:CONT 0;:STAT:QUES:ENAB 1;PTR 512;NTR 1");
        b.house.signal(0, 0, 2000, 0, 1);
        b.house.wire(0, 0, 0);
        b.tell(0, "CALC:LIM:STAT 1;:ABOR;:INIT");
        b.house.tick(1);
        Bench.due("CONDITION", b.house.register(0, 1, 0), 513);
        Bench.due("EVENT", b.house.register(0, 1, 3), 512);
        b.tell(0, "*CLS");
        Bench.due("none", b.house.register(0, 1, 3), 0);
        b.tell(0, "INIT");
        b.house.tick(1);
        Bench.due("nothing came", b.house.register(0, 1, 3), 0);
        b.house.signal(0, 0, 0, 0, 1);
        b.tell(0, "INIT");
        b.house.tick(1);
        Bench.due("CONDITION", b.house.register(0, 1, 0), 0);
        Bench.due("EVENT", b.ask(0, "STAT:QUES:COND?;:STAT:QUES?;QUES:EVEN?"), "0;1;0\n");
    }

    private static void statusByte() {
        Bench b = Bench.with(1);
        b.tell(0, "*ESE 128");
        Bench.due("EVENT", b.house.register(0, 2, 2), 32);
        b.tell(0, "FOO");
        Bench.due("ERRORS", b.house.register(0, 2, 2), 36);
        b.tell(0, "*TST?");
        Bench.due("OUTPUT", b.house.register(0, 2, 2), 52);
        b.tell(0, "*SRE 255");
        Bench.due("SERVICE ENABLE", b.house.register(0, 2, 3), 191);
        Bench.due("*SRE?", b.ask(0, "*SRE?;*SRE 64;*SRE?"), "191;0\n");
        b.tell(0, "*CLS;*SRE 4");
        Bench.due("no MASTER", b.ask(0, "*STB?"), "0\n");
        b.tell(0, "FOO");
        Bench.due("MASTER", b.ask(0, "*STB?;*STB?"), "68;84\n");
        b.tell(0, "*CLS;:STAT:QUES:ENAB 1;:STAT:OPER:ENAB 16");
        b.house.signal(0, 0, 2000, 0, 1);
        b.house.wire(0, 0, 0);
        b.tell(0, "INIT");
        Bench.due("OPERATION", b.house.register(0, 2, 2), 128);
        b.house.tick(1);
        Bench.due("QUESTIONABLE", b.house.register(0, 2, 2), 136);
        Bench.due("EVENT is 0 then", b.ask(0, "STAT:OPER?;*STB?"), "16;24\n");
    }

    private static void serviceComes() {
        Bench b = Bench.with(0, 1);
        b.tell(1, "*SRE 16;*ESE?");
        Bench.due("service", b.house.service(), 2);
        Bench.due("asked", b.house.register(1, 2, 4), 1);
        Bench.due("poll", b.house.poll(1), 80);
        Bench.due("not any more", b.house.service(), 0);
        Bench.due("poll", b.house.poll(1), 16);
        b.house.take(1);
        Bench.due("not anew", b.house.service(), 0);
        b.take(1);
        b.tell(1, "*ESE?");
        Bench.due("anew when it comes", b.house.service(), 2);
        b.tell(0, "*SRE 4");
        Bench.due("not by the ENABLE alone", b.house.service(), 2);
        b.tell(0, "FOO");
        Bench.due("both", b.house.service(), 3);
        b.tell(0, "*SRE 0");
        Bench.due("without ENABLE", b.house.service(), 2);
        b.tell(0, "*SRE 4");
        Bench.due("an ENABLE makes it so", b.house.service(), 3);
        b.house.poll(0);
        b.tell(0, "BAR");
        Bench.due("the bit did not come", b.house.service(), 2);
        Bench c = Bench.with(0);
        c.tell(0, "*SRE 32");
        c.tell(0, "*ESE 128");
        Bench.due("an ENABLE of EVENT", c.house.poll(0), 96);
        Bench m = Bench.with(1);
        m.tell(0, "*SRE 128;:STAT:OPER:ENAB 16;:INIT");
        Bench.due("by a UNIT", m.house.poll(0), 192);
        m.tell(0, "*CLS;:STAT:OPER:PTR 0;NTR 16");
        m.house.tick(1);
        Bench.due("by a TICK", m.house.poll(0), 192);
        m.tell(0, "*CLS;*SRE 4");
        m.house.trigger(0);
        Bench.due("by a call", m.house.poll(0), 68);
    }

    private static void serviceGoes() {
        Bench b = Bench.with(0);
        b.tell(0, "*SRE 20;*TST?");
        Bench.due("asked", b.house.service(), 1);
        b.house.take(0);
        Bench.due("still asked", b.house.service(), 1);
        b.house.take(0);
        Bench.due("none is left", b.house.service(), 0);
        b.tell(0, "*TST?");
        b.house.clear(0);
        Bench.due("none is left", b.house.service(), 0);
        b.tell(0, "FOO");
        b.tell(0, "*CLS");
        Bench.due("none is left", b.house.service(), 0);
        b.tell(0, "*TST?");
        b.house.poll(0);
        b.tell(0, "FOO");
        Bench.due("one goes, another comes", b.house.poll(0), 68);
        Bench c = Bench.with(0);
        c.tell(0, "*SRE 16;*TST?");
        c.house.poll(0);
        c.tell(0, "*TST?");
        Bench.due("looked at behind each byte", c.house.poll(0), 84);
        Bench d = Bench.with(0);
        d.tell(0, "*SRE 20;FOO");
        d.house.poll(0);
        d.tell(0, "*ESE 0");
        Bench.due("nothing came", d.house.poll(0), 4);
        c.house.take(0);
        c.tell(0, "*CLS;*SRE 4;FOO");
        c.house.poll(0);
        c.tell(0, "SYST:ERR?;*FOO");
        Bench.due("looked at behind each UNIT", c.house.poll(0), 84);
    }

    private static void complete() {
        Bench b = Bench.with(1);
        Bench.due("at once", b.ask(0, "*ESR?;*OPC;*ESR?"), "128;1\n");
        b.tell(0, "APER 2;:INIT;*OPC");
        Bench.due("PENDING", b.house.register(0, 2, 0), 0);
        b.house.tick(1);
        Bench.due("PENDING", b.house.register(0, 2, 0), 0);
        b.house.tick(1);
        Bench.due("COMPLETE", b.house.register(0, 2, 0), 1);
        b.tell(0, "*CLS;:INIT;*OPC;*WAI;*ESR?");
        b.house.tick(2);
        Bench.due("behind the UNIT that was HELD", b.take(0), "1\n");
        b.tell(0, "INIT;*OPC;:ABOR;*ESR?");
        Bench.due("by ABORt", b.take(0), "1\n");
        b.tell(0, "INIT;*OPC;:READ?;*ESR?");
        b.house.tick(1);
        Bench.due("not by the IDLE of READ?", b.house.register(0, 2, 0), 0);
        b.house.tick(1);
        Bench.due("READ? is one UNIT", b.take(0), "9.91E37;1\n");
        b.tell(0, "INIT;*OPC;:INIT:CONT ON;*ESR?");
        Bench.due("CONTINUOUS is not PENDING", b.take(0), "1\n");
        String[] forget = {"*CLS", "*RST"};
        for (String s : forget) {
            b.tell(0, "*RST;*CLS;:INIT;*OPC;" + s + ";:ABOR");
            Bench.due("forgotten by " + s, b.house.register(0, 2, 0), 0);
        }
    }

    private static void preset() {
        Bench b = Bench.with(0);
        b.tell(0, "STAT:OPER:ENAB 1;PTR 2;NTR 3;:STAT:QUES:ENAB 4;PTR 5;NTR 6");
        int[][] set = {{2, 3, 1}, {5, 6, 4}};
        for (int w = 0; w < 2; w++) {
            Bench.due("POSITIVE", b.house.register(0, w, 1), set[w][0]);
            Bench.due("NEGATIVE", b.house.register(0, w, 2), set[w][1]);
            Bench.due("ENABLE", b.house.register(0, w, 4), set[w][2]);
        }
        b.tell(0, "*SAV 0;STAT:OPER:ENAB 9;*RCL 0;*RST");
        Bench.due("they stay", b.ask(0, "STAT:OPER:ENAB?;PTR?;NTR?;:STAT:QUES:ENAB?;PTR?;NTR?"), "9;2;3;4;5;6\n");
        b.tell(0, "STAT:PRES");
        Bench.due("PRESET", b.ask(0, "STAT:OPER:ENAB?;PTR?;NTR?;:STAT:QUES:ENAB?;PTR?;NTR?"), "0;32767;0;0;32767;0\n");
        b.tell(0, "*ESE 5;*SRE 6;*RST;*SAV 0;*ESE 7;*SRE 8;*RCL 0");
        Bench.due("*ESE, *SRE stay", b.ask(0, "*ESE?;*SRE?"), "7;8\n");
    }
}
