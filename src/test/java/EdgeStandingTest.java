/** The sentences of the term STANDING (CONTROL and NORMAL, interrupts, the clock, INT), one test each. */
public final class EdgeStandingTest {
    private static final long LEAST = Kit.LEAST;

    public static void main(String[] args) {
        startsBelow();
        normalForGood();
        normalAddresses();
        noInt();
        controlAddresses();
        stopsInControl();
        keptRegisters();
        keptWord();
        keptWhy();
        interruptStaysInTime();
        haltInterrupts();
        clockIsTaken();
        clockIsLeftAlone();
        clockRunsOut();
        clockWaits();
        clockOrder();
        clockMeanwhile();
        intLoads();
        intBytes();
        settledAhead();
        interruptIsNoStop();
        Kit.close();
    }

    /** A program in CONTROL from -500 on (HLT at -12 ends it), the clock, and what is in NORMAL from 0 on. */
    private static SixBitBoard watched(String clock, String[] control, String... normal) {
        SixBitBoard b = new SixBitBoard();
        StringBuilder text = new StringBuilder(Kit.source("ORIG|-12", "HLT", "ORIG|-10", "CON|" + clock, "ORIG|-500"));
        text.append(Kit.source(control)).append(Kit.source("ORIG|0")).append(Kit.source(normal)).append(Kit.source("END|-500"));
        int words = Kit.feed(b, text.toString()).assemble();
        if (words < 0) {
            throw new IllegalStateException("line " + (-1 - words) + " has error " + b.error());
        }
        return b;
    }

    private static SixBitBoard normal(String clock, String... lines) {
        SixBitBoard b = watched(clock, new String[] {"INT"}, lines);
        b.run(1000);
        return b;
    }

    private static void startsBelow() {
        Kit.told("a program whose start is below 0 begins in CONTROL and is WATCHED");
        SixBitBoard b = Kit.ran("ORIG|-1", "LDA|-1", "HLT", "END|-1");
        Kit.due("-1: it reads below 0", b.state(), 1);
        b = Kit.ran("ORIG|-3999", "LDA|-3999", "HLT", "END|-3999");
        Kit.due("-3999", b.state(), 1);
        b = Kit.ran("LDA|-1", "HLT", "END|0");
        Kit.due("0: it does not", b.state(), 3);
        b = Kit.ran("LDA|-1", "HLT", "END|-0");
        Kit.due("-0 is not below 0", b.state(), 3);
        b = Kit.ran("ORIG|-1", "NOP", "LDA|-1", "HLT", "END|-1");
        Kit.due("it stays in CONTROL at 0 and behind", b.state(), 1);
    }

    private static void normalForGood() {
        Kit.told("all others are in NORMAL for good");
        SixBitBoard b = Kit.ran("ORIG|-12", "ENTA|7", "HLT", "ORIG|-10", "CON|1", "ORIG|0", "NOP", "NOP", "HLT", "END|0");
        Kit.due("HLT stops it", b.state(), 1);
        Kit.due("it does not interrupt", b.register(0), 0);
        Kit.due("no clock is taken from", b.word(-10), 1);
        b = Kit.ran("ORIG|-12", "ENTA|7", "ORIG|0", "LDA|4000", "END|0");
        Kit.due("a fault stops it", b.state(), 3);
        Kit.due("nothing comes to -11", b.word(-11), 0);
        b = new SixBitBoard();
        Kit.feed(b, "   CE\n").cards();
        b.go();
        b.run(5);
        Kit.due("INT of a card that go() runs", b.state(), 2);
    }

    private static void normalAddresses() {
        Kit.told("In NORMAL the addresses (the counter's, too) are 0 .. 3999");
        Kit.due("LDA -1", normal("1000", "LDA|-1").word(-11), 2);
        Kit.due("LDA 0", normal("1000", "LDA|0", "CON|7(3:3)").word(-11), 1);
        Kit.due("LDA 3999", normal("1000", "LDA|3999", "CON|7(3:3)").word(-11), 1);
        Kit.due("LDA 4000", normal("1000", "LDA|4000").word(-11), 2);
        Kit.due("MOVE to -1", normal("1000", "ENN1|1", "MOVE|5(1)").word(-11), 2);
        Kit.due("OUT of -1", normal("1000", "OUT|-1(18)").word(-11), 2);
        Kit.due("JMP -1", normal("1000", "JMP|-1").word(-11), 7);
        Kit.due("JMP 4000", normal("1000", "JMP|4000").word(-11), 7);
        SixBitBoard b = watched("1000", new String[] {"ENT1|4000", "ST1|-1(4:5)", "INT"});
        b.run(1000);
        Kit.due("a counter of 4000", b.word(-11), 2);
        b = watched("1000", new String[] {"ENT1|3999", "ST1|-1(4:5)", "INT"}, "ORIG|3999", "CON|7(3:3)");
        b.run(1000);
        Kit.due("a counter of 3999", b.word(-11), 1);
    }

    private static void noInt() {
        Kit.told("INT is no instruction");
        SixBitBoard b = normal("1000", "NOP", "INT");
        Kit.due("fault 1 in NORMAL", b.word(-11), 1);
        Kit.due("counter", b.word(-1), 1);
        Kit.due("not watched", Kit.ran("INT", "HLT", "END|0").state(), 2);
        Kit.due("in CONTROL it is one", watched("9", new String[] {"INT"}).run(1), 1);
    }

    private static void controlAddresses() {
        Kit.told("In CONTROL they are -3999 .. 3999");
        String[] in = {"LDA|-3999", "LDA|3999", "STA|-3999", "STZ|3999", "OUT|-3999(18)", "OUT|3976(18)", "IN|-3999(8)", "IN|3900(8)"};
        for (String line : in) {
            Kit.due(line, Kit.ran("ORIG|-9", line, "HLT", "END|-9").state(), 1);
        }
        String[] out = {"LDA|-4000", "LDA|4000", "STA|-4000", "STZ|4000", "OUT|-4000(18)", "OUT|3977(18)", "IN|-4000(8)", "IN|3901(8)"};
        for (String line : out) {
            Kit.due(line, Kit.ran("ORIG|-9", line, "HLT", "END|-9").state(), 3);
        }
        Kit.due("JMP -3999", Kit.ran("ORIG|-3999", "HLT", "ORIG|-9", "JMP|-3999", "END|-9").state(), 1);
        Kit.due("JMP -4000", Kit.ran("ORIG|-9", "JMP|-4000", "END|-9").state(), 8);
        Kit.due("JMP 4000", Kit.ran("ORIG|-9", "JMP|4000", "END|-9").state(), 8);
        SixBitBoard b = Kit.ran("ORIG|-3999", "CON|-7", "CON|8", "ORIG|3998", "CON|5", "CON|6", "ORIG|-9", "ENT1|-3999", "MOVE|3998(2)", "HLT", "END|-9");
        Kit.due("MOVE to -3999", b.word(-3999), 5);
        Kit.due("MOVE to -3998", b.word(-3998), 6);
        Kit.due("MOVE from -4000", Kit.ran("ORIG|-9", "MOVE|-4000(1)", "HLT", "END|-9").state(), 3);
    }

    private static void stopsInControl() {
        Kit.told("What stops a watched program in NORMAL INTERRUPTS it instead: in CONTROL it stops");
        SixBitBoard b = Kit.ran("ORIG|-9", "NOP", "HLT", "END|-9");
        Kit.due("HLT", b.state(), 1);
        Kit.due("counter", b.register(11), -7);
        b = Kit.ran("ORIG|-30", "NOP", "LDA|4000", "END|-30");
        Kit.due("a fault", b.state(), 3);
        Kit.due("counter of the fault", b.register(11), -29);
        Kit.due("nothing is kept", b.word(-11), 0);
    }

    private static void keptRegisters() {
        Kit.told("A, I1 to I6, X come to words -9 to -2");
        SixBitBoard b = normal("1000", "LDA|P", "LDX|M", "ENT1|4095", "ENN2|4095", "ENN3|0", "ENT4|0", "ENT5|1", "ENN6|1", "LDA|4000", "P|CON|1073741823", "M|CON|-1073741823");
        long[] want = {1073741823, 4095, -4095, LEAST, 0, 1, -1, -1073741823};
        for (int k = 0; k < 8; k++) {
            Kit.due("word " + (k - 9), b.word(k - 9), want[k]);
            Kit.due("register " + k + " stays", b.register(k), want[k]);
        }
    }

    private static void keptWord() {
        Kit.told("to -1 a word, +: J in bytes 1 and 2, in byte 3 0 less, 1 equal, 2 greater, and 8 more with overflow, the counter in bytes 4 and 5");
        String[] compare = {"CMPA|P", "CMPA|0(0:0)", "CMPA|M"};
        for (int k = 0; k < 3; k++) {
            for (int over = 0; over <= 1; over++) {
                SixBitBoard b = normal("1000", over == 0 ? "NOP" : "LDA|P", over == 0 ? "NOP" : "INCA|1", "ENTA|0", compare[k], "CON|7(3:3)", "P|CON|1073741823", "M|CON|-5");
                Kit.due("comparison " + k + ", overflow " + over, b.word(-1), Kit.bytes(0, 0, k + 8 * over, 0, 4));
            }
        }
        SixBitBoard b = normal("1000", "JMP|3999", "LDA|4000", "ORIG|3999", "JMP|1");
        Kit.due("J 4000", b.word(-1), Kit.bytes(4000 / 64, 4000 % 64, 0, 0, 1));
        b = normal("1000", "JMP|3998", "ORIG|3998", "NOP", "NOP");
        Kit.due("counter 4000", b.word(-1), Kit.bytes(0, 1, 0, 4000 / 64, 4000 % 64));
        Kit.due("it is fault 2", b.word(-11), 2);
        b = watched("1000", new String[] {"ENT1|4095", "ST1|-1(4:5)", "ST1|-1(1:2)", "INT"});
        b.run(1000);
        Kit.due("J and counter 4095", b.word(-1), Kit.bytes(63, 63, 0, 63, 63));
        b = watched("1000", new String[] {"ENN1|5", "ST1|-1(0:2)", "INT"}, "CON|7(3:3)");
        b.run(1000);
        Kit.due("its sign is +", b.word(-1), Kit.bytes(0, 5, 0, 0, 0));
    }

    private static void keptWhy() {
        Kit.told("to -11 why: 0 HLT, the fault's number, or 9");
        String[] why = {"HLT", "CON|7(3:3)", "LDA|4000", "LDA|0(6)", "LD1|1", "IN|0(17)", "IN|0(16)", "JMP|4000"};
        for (int k = 0; k < why.length; k++) {
            SixBitBoard b = watched("1000", new String[] {"ENTA|77", "STA|-11", "INT"}, why[k], "CON|4096");
            b.run(1000);
            Kit.due(why[k], b.word(-11), k);
        }
        SixBitBoard b = watched("0", new String[] {"INT"}, "NOP");
        b.run(1000);
        Kit.due("9", b.word(-11), 9);
    }

    private static void interruptStaysInTime() {
        Kit.told("it is in CONTROL, the counter -12, u stays");
        SixBitBoard b = new SixBitBoard();
        Kit.assemble(b, "ORIG|-12", "LDX|-12", "HLT", "ORIG|-10", "CON|100", "ORIG|-500", "INT", "ORIG|0", "LDA|4000", "END|-500");
        Kit.due("INT", b.run(1), 1);
        Kit.due("u of INT", b.time(), 2);
        Kit.due("LDX of -12 is the next that is done", b.run(1), 1);
        Kit.due("counter", b.register(11), -11);
        Kit.due("u: no more than LDX's", b.time(), 4);
        Kit.due("the clock stays", b.word(-10), 100);
        Kit.due("state", b.state(), 0);
        Kit.due("X is read from below 0", b.register(7), b.word(-12));
    }

    private static void haltInterrupts() {
        Kit.told("HLT when it is done");
        SixBitBoard b = watched("1000", new String[] {"INT"}, "NOP", "HLT");
        Kit.due("INT, NOP, HLT", b.run(3), 3);
        Kit.due("u with HLT's", b.time(), 13);
        Kit.due("it is in CONTROL then", b.register(11), -12);
        Kit.due("the counter behind HLT", b.word(-1), 2);
        Kit.due("0", b.word(-11), 0);
        Kit.due("HLT's u is taken from the clock", b.word(-10), 1000 - 11);
        Kit.due("it runs", b.state(), 0);
    }

    private static void clockIsTaken() {
        Kit.told("of a watched program in NORMAL each instruction's u is taken, when it is done, from its value then");
        SixBitBoard b = watched("1000", new String[] {"INT"}, "NOP", "LDA|5", "MUL|5", "DIV|5", "ENT1|100", "MOVE|5(9)", "JMP|7", "NUM");
        int[] u = {1, 2, 10, 12, 1, 19, 1, 10};
        int left = 1000;
        b.run(1);
        Kit.due("INT's u is not", b.word(-10), 1000);
        for (int n : u) {
            b.run(1);
            left -= n;
            Kit.due("less " + n, b.word(-10), left);
        }
        b = watched("1073741823", new String[] {"INT"}, "NOP");
        b.run(2);
        Kit.due("the greatest", b.word(-10), 1073741822);
        Kit.told("0 is +0");
        b = watched("1", new String[] {"INT"}, "NOP");
        b.run(2);
        Kit.due("1 - 1", b.word(-10), 0);
    }

    private static void clockIsLeftAlone() {
        Kit.told("of a watched program in NORMAL");
        SixBitBoard b = watched("5", new String[] {"NOP", "LDA|0", "MUL|0", "HLT"});
        b.run(9);
        Kit.due("in CONTROL no u is taken", b.word(-10), 5);
        Kit.due("nor does it run out", b.state(), 1);
        b = watched("-7", new String[] {"NOP", "INT"}, "NOP");
        b.run(2);
        Kit.due("INT itself is done", b.register(11), 0);
    }

    private static void clockRunsOut() {
        Kit.told("one whose u is more than this value interrupts with 9 instead");
        String[][] runs = {{"NOP", "1"}, {"LDA|5", "2"}, {"HLT", "10"}, {"MUL|5", "10"}, {"DIV|5", "12"}, {"MOVE|5(63)", "127"}, {"OUT|5(18)", "1"}};
        for (String[] r : runs) {
            int u = Integer.parseInt(r[1]);
            SixBitBoard b = watched("" + u, new String[] {"INT"}, r[0]);
            Kit.due(r[0] + " with its u", b.run(2), 2);
            Kit.due("the clock", b.word(-10), 0);
            b = watched("" + (u - 1), new String[] {"INT", "NOP"}, r[0]);
            b.run(2);
            Kit.due(r[0] + " with less", b.word(-11), 9);
            Kit.due("counter", b.word(-1), 0);
            Kit.due("the clock stays", b.word(-10), u - 1);
            Kit.due("u stays", b.time(), 2 + 10);
        }
        for (String clock : new String[] {"-0", "-1", "-1073741823"}) {
            Kit.due("a clock of " + clock, normal(clock, "NOP").word(-11), 9);
        }
    }

    private static void clockWaits() {
        Kit.told("with waiting for its unit, if there is one, whatever faults come");
        String[] busy = {"OUT|1000(19)", "INT"};
        // OUT at 0, busy till 900; NORMAL begins at 3
        String[] lines = {"OUT|1000(19)", "IN|1000(19)", "OUT|4000(19)", "IOC|5(19)"};
        int[] fault = {0, 5, 2, 5};
        for (int k = 0; k < lines.length; k++) {
            SixBitBoard b = watched("897", busy, lines[k]);
            b.run(1000);
            Kit.due(lines[k] + " with 897", b.word(-11), 9);
            b = watched("898", busy, lines[k], "NOP");
            b.run(1000);
            Kit.due(lines[k] + " with 898", b.word(-11), fault[k] == 0 ? 9 : fault[k]);
            Kit.due(lines[k] + " with 898, counter", b.word(-1) % 4096, fault[k] == 0 ? 1 : 0);
        }
        for (int f = 20; f <= 63; f += 43) {
            SixBitBoard b = watched("1", busy, "OUT|1000(" + f + ")");
            b.run(1000);
            Kit.due("no unit " + f + ", no waiting", b.word(-11), 5);
        }
        SixBitBoard b = watched("1", busy, "JBUS|7(19)");
        b.run(3);
        Kit.due("JBUS does not wait", b.register(11), 7);
        b = watched("1", busy, "OUT|1000(18)");
        b.run(3);
        Kit.due("another unit is free", b.word(-10), 0);
    }

    private static void clockOrder() {
        Kit.told("looked at behind fault 1, and 2 of the counter, ahead of the others");
        Kit.due("fault 1", normal("0", "CON|7(3:3)").word(-11), 1);
        Kit.due("INT", normal("0", "INT").word(-11), 1);
        SixBitBoard b = watched("0", new String[] {"ENT1|4000", "ST1|-1(4:5)", "INT"});
        b.run(1000);
        Kit.due("2 of the counter", b.word(-11), 2);
        String[] others = {"LDA|4000", "LDA|0(6)", "LD1|0", "IN|0(17)", "IN|0(16)", "JMP|4000"};
        for (String line : others) {
            Kit.due(line, normal("0", line).word(-11), 9);
        }
        Kit.due("HLT", normal("9", "HLT").word(-11), 9);
    }

    /** CONTROL begins an IN of a disk's block over -100 to -1 at 0, done at 400; NORMAL's last MOVE ends at 406. */
    private static SixBitBoard meanwhile(String word) {
        SixBitBoard b = new SixBitBoard();
        Kit.assemble(b, "OUT|0(8)", "HLT", "ORIG|90", "CON|" + word, "END|0");
        b.run(9);
        Kit.assemble(b, "ORIG|-12", "HLT", "ORIG|-10", "CON|4000", "ORIG|-500", "IN|-100(8)", "INT", "ORIG|0", "ENT1|200", "MOVE|100(63)", "MOVE|100(63)",
            "MOVE|100(63)", "MOVE|100(10)", "NOP", "NOP", "END|-500");
        b.run(6);
        Kit.due("time", b.time(), 385);
        Kit.due("the old clock", b.word(-10), 4000 - 1 - 3 * 127);
        b.run(1);
        Kit.due("time", b.time(), 406);
        return b;
    }

    private static void clockMeanwhile() {
        Kit.told("from its value then (what came there meanwhile; 0 is +0; of what is beyond the magnitude what is left below 2 to the power 30)");
        Kit.due("what came", meanwhile("100").word(-10), 79);
        Kit.due("0 is +0", meanwhile("21").word(-10), 0);
        Kit.due("less than u", meanwhile("20").word(-10), -1);
        Kit.due("-0 came", meanwhile("-0").word(-10), -21);
        Kit.due("the least magnitude beyond: +0", meanwhile("-1073741803").word(-10), 0);
        Kit.due("just not beyond", meanwhile("-1073741802").word(-10), -1073741823);
        Kit.due("beyond", meanwhile("-1073741823").word(-10), -20);
        SixBitBoard b = meanwhile("20");
        Kit.due("below 0 the next one", b.run(1), 1);
        Kit.due("interrupts with 9", b.word(-11), 9);
    }

    private static void intLoads() {
        Kit.told("INT: A, I1 to I6 (sign and bytes 4, 5), X come from words -9 to -2");
        SixBitBoard b = new SixBitBoard();
        Kit.assemble(b, "ORIG|-9", "CON|-1073741823", "CON|-1073741823", "CON|4096", "CON|-4096", "CON|-0", "CON|5", "CON|-262143", "CON|1073741823", "ORIG|-500", "INT", "END|-500");
        b.run(1);
        long[] want = {-1073741823, -4095, 0, LEAST, LEAST, 5, -4095, 1073741823};
        for (int k = 0; k < 8; k++) {
            Kit.due("register " + k, b.register(k), want[k]);
        }
        Kit.due("u", b.time(), 2);
    }

    private static void intBytes() {
        Kit.told("J (bytes 1 and 2, +), overflow (byte 3 is 8 or more), the comparison (byte 3 modulo 8: 0 less, 1 equal, else greater), the counter (bytes 4 and 5) from -1");
        for (int third = 0; third <= 63; third++) {
            SixBitBoard b = new SixBitBoard();
            Kit.assemble(b, "ORIG|-1", "CON|-4095(0:2)," + third + "(3:3)," + (63 * third) + "(4:5)", "ORIG|-500", "INT", "END|-500");
            b.run(1);
            Kit.due("J", b.register(8), 4095);
            Kit.due("overflow of " + third, b.register(9), third >= 8 ? 1 : 0);
            Kit.due("comparison of " + third, b.register(10), third % 8 == 0 ? -1 : third % 8 == 1 ? 0 : 1);
            Kit.due("counter", b.register(11), 63 * third);
        }
        SixBitBoard b = new SixBitBoard();
        Kit.assemble(b, "ORIG|-1", "CON|-0", "ORIG|-500", "INT", "END|-500");
        b.run(1);
        Kit.due("J is +0", b.register(8), 0);
        Kit.due("counter 0", b.register(11), 0);
        Kit.due("less", b.register(10), -1);
        b = Kit.ran("ORIG|-500", "LDA|W", "INCA|1", "INT", "W|CON|1073741823", "ORIG|-12", "HLT", "ORIG|-1", "CON|1(3:3)", "END|-500");
        Kit.due("off, where it was on", b.register(9), 0);
        Kit.due("equal", b.register(10), 0);
    }

    private static void settledAhead() {
        Kit.told("What is done by the time an instruction begins lies there for it: ahead of an interrupt, too");
        SixBitBoard b = new SixBitBoard();
        Kit.feed(b, "AAAAA".repeat(100)).mount(8, 0);
        // IN at 0 is done at 400; NORMAL's fault is met at 400
        Kit.assemble(b, "ORIG|-500", "IN|-100(8)", "ENT1|1000", "MOVE|100(63)", "MOVE|100(63)", "MOVE|100(63)", "MOVE|100(7)", "INT", "ORIG|0", "LDA|4000", "END|-500");
        b.run(7);
        Kit.due("time", b.time(), 400);
        Kit.due("the words lie there", b.word(-11), Kit.letters("AAAAA"));
        b.run(1);
        Kit.due("why comes over them", b.word(-11), 2);
        Kit.due("and the counter", b.word(-1), 0);
        Kit.due("the clock is what came", b.word(-10), Kit.letters("AAAAA"));
    }

    private static void interruptIsNoStop() {
        Kit.told("when the machine stops all that began is done: an interrupt is no stop");
        for (String line : new String[] {"LDA|4000", "HLT", "CON|7(3:3)", "MUL|0"}) {
            SixBitBoard b = new SixBitBoard();
            Kit.feed(b, "CARD").cards();
            Kit.assemble(b, "ORIG|-12", "JMP|-50", "CON|0", "CON|11", "ORIG|-50", "LDA|1000", "NOP", "HLT", "ORIG|-500", "INT", "ORIG|0", "IN|1000(16)", line, "MUL|0", "END|-500");
            b.run(5);
            Kit.due(line + ": in CONTROL", b.register(11) < 0, true);
            Kit.due(line + ": not there yet", b.word(1000), 0);
            Kit.due(line + ": nor for LDA", b.register(0), 0);
            b.run(9);
            Kit.due(line + ": it halted", b.state(), 1);
            Kit.due(line + ": there then", b.word(1000), Kit.letters("CARD "));
        }
    }
}
