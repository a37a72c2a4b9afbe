/** Terms: CONTROL and NORMAL, interrupts, the clock, INT; promises 8 (run), 20 (register), 21 (word), 22 (time). */
public final class StandingTest {
    private static final long LEAST = Integer.MIN_VALUE;

    public static void main(String[] args) {
        interrupts();
        clock();
        clockMeanwhile();
        waiting();
        returning();
        control();
        reader();
        counting();
        asking();
        Kit.close();
    }

    /** A watched program: what CONTROL does ahead of INT, and the program in NORMAL from 0 on. */
    private static SixBitBoard watched(String clock, String[] ahead, String... normal) {
        SixBitBoard b = new SixBitBoard();
        StringBuilder text = new StringBuilder(Kit.source("ORIG|-12", "HLT", "ORIG|-10", "CON|" + clock, "ORIG|-500"));
        text.append(Kit.source(ahead)).append(Kit.source("INT", "ORIG|0"));
        text.append(Kit.source(normal)).append(Kit.source("END|-500"));
        int words = Kit.feed(b, text.toString()).assemble();
        if (words < 0) {
            throw new IllegalStateException("line " + (-1 - words) + " has error " + b.error());
        }
        return b;
    }

    private static void interrupts() {
        SixBitBoard b = watched("1000", new String[0], "ENTA|-7", "ENT1|11", "ENT2|12", "ENT3|13", "ENT4|-14", "ENT5|15",
            "ENN6|0", "ENTX|17", "CMPA|0", "JMP|*+1", "LDA|4000", "HLT");
        Kit.due("11 done, then HLT in CONTROL", b.run(100), 1 + 10 + 1);
        long[] kept = {-7, 11, 12, 13, -14, 15, LEAST, 17};
        for (int k = 0; k < 8; k++) {
            Kit.due("word " + (k - 9), b.word(k - 9), kept[k]);
        }
        Kit.due("J, greater, counter", b.word(-1), (10L << 18) + (2 << 12) + 10);
        Kit.due("why", b.word(-11), 2);
        Kit.due("it halted in CONTROL", b.state(), 1);
        Kit.due("behind -12", b.register(11), -11);
        Kit.due("u", b.time(), 2 + 8 + 2 + 1 + 10);
        Kit.due("the clock", b.word(-10), 1000 - 11);
        Kit.due("A stays", b.register(0), -7);
        b = watched("1000", new String[0], "LDA|=1073741823=", "INCA|1", "CMPA|=-1=", "HLT");
        b.run(100);
        Kit.due("overflow and greater", b.word(-1), (10L << 12) + 4);
        Kit.due("HLT is 0", b.word(-11), 0);
        Kit.due("HLT's u is taken", b.word(-10), 1000 - 2 - 1 - 2 - 10);
        String[] faults = {"CON|63(3:3)", "LDA|-1", "LDA|0(6)", "LD1|W", "IN|0(18)", "IN|0(16)", "JMP|4000"};
        for (int k = 0; k < faults.length; k++) {
            b = watched("1000", new String[0], faults[k], "W|CON|4096");
            b.run(100);
            Kit.due(faults[k], b.word(-11), k + 1);
            Kit.due(faults[k] + ", less, as INT left it", b.word(-1), 0);
            Kit.due(faults[k] + ", clock stays", b.word(-10), 1000);
            Kit.due(faults[k] + ", u", b.time(), 12);
        }
        b = watched("1000", new String[0], "INT");
        b.run(100);
        Kit.due("INT is none in NORMAL", b.word(-11), 1);
    }

    private static void clock() {
        SixBitBoard b = watched("5", new String[0], "LDA|1", "LDA|1", "LDA|1");
        b.run(100);
        Kit.due("out of time", b.word(-11), 9);
        Kit.due("ahead of the third", b.word(-1), 2);
        Kit.due("what is left", b.word(-10), 1);
        b = watched("4", new String[0], "LDA|1", "LDA|1", "NOP");
        b.run(100);
        Kit.due("all used up", b.word(-10), 0);
        Kit.due("two done", b.word(-1), 2);
        b = watched("-0", new String[0], "NOP");
        b.run(100);
        Kit.due("-0 is 0", b.word(-11), 9);
        Kit.due("it stays -0", b.word(-10), LEAST);
        b = watched("-50", new String[0], "NOP");
        b.run(100);
        Kit.due("below 0", b.word(-11), 9);
        b = watched("0", new String[0], "CON|63(3:3)");
        b.run(100);
        Kit.due("behind fault 1", b.word(-11), 1);
        b = watched("1", new String[0], "LDA|-1");
        b.run(100);
        Kit.due("ahead of fault 2", b.word(-11), 9);
        b = watched("2", new String[0], "LDA|-1");
        b.run(100);
        Kit.due("fault 2 in time", b.word(-11), 2);
        b = watched("0", new String[] {"ENT1|4000", "ST1|-1(4:5)"});
        b.run(100);
        Kit.due("behind fault 2 of the counter", b.word(-11), 2);
        Kit.due("the counter", b.word(-1), 4000);
        b = watched("9", new String[0], "HLT");
        b.run(100);
        Kit.due("HLT out of time", b.word(-11), 9);
        Kit.due("ahead of HLT", b.word(-1), 0);
    }

    /** An IN that CONTROL began brings a new clock while a NORMAL instruction is done. */
    private static void clockMeanwhile() {
        SixBitBoard b = new SixBitBoard();
        Kit.feed(b, "AAAAA".repeat(90) + "     ".repeat(10)).mount(8, 0);
        String[] line = {"ORIG|-12", "HLT", "ORIG|-10", "CON|4000", "ORIG|-500", "IN|-100(8)", "INT", "ORIG|0", "MOVE|100(63)",
            "MOVE|100(63)", "MOVE|100(63)", "MOVE|100(63)", "NOP", "END|-500"};
        line[8] = "ENT1|200";
        Kit.assemble(b, line);
        // IN at 0, INT at 1, ENT1 at 3, MOVE at 4, 131, 258 to 385
        b.run(6);
        Kit.due("time", b.time(), 4 + 3 * 127);
        Kit.due("the old clock", b.word(-10), 4000 - 1 - 3 * 127);
        Kit.due("NOP", b.run(1), 1);
        Kit.due("the clock", b.word(-10), 4000 - 2 - 3 * 127);
        Kit.feed(b, ("AAAAA".repeat(90) + "    9".repeat(10))).mount(8, 0);
        Kit.assemble(b, "ORIG|-12", "HLT", "ORIG|-10", "CON|4000", "ORIG|-500", "IN|-100(8)", "INT", "ORIG|0", "ENT1|200",
            "MOVE|100(63)", "MOVE|100(63)", "MOVE|100(63)", "MOVE|100(10)", "END|-500");
        b.run(7);
        Kit.due("done at 406", b.time(), 406);
        Kit.due("u is taken from what came", b.word(-10), 39 - 21);
        Kit.feed(b, ("AAAAA".repeat(90) + "    A".repeat(10))).mount(8, 0);
        Kit.assemble(b, "ORIG|-12", "HLT", "ORIG|-10", "CON|4000", "ORIG|-500", "IN|-100(8)", "INT", "ORIG|0", "ENT1|200",
            "MOVE|100(63)", "MOVE|100(63)", "MOVE|100(63)", "MOVE|100(10)", "NOP", "END|-500");
        b.run(7);
        Kit.due("below 0", b.word(-10), 1 - 21);
        b.run(1);
        Kit.due("then it interrupts", b.word(-11), 9);
        // a clock that goes beyond the magnitude: 64 * 64 ... - 1 with -
        SixBitBoard c = new SixBitBoard();
        Kit.assemble(c, "OUT|0(9)", "HLT", "ORIG|90", "CON|-1073741823", "END|0");
        Kit.due("assembled", c.error(), 0);
        c.run(9);
        Kit.assemble(c, "ORIG|-12", "HLT", "ORIG|-10", "CON|4000", "ORIG|-500", "IN|-100(9)", "INT", "ORIG|0", "ENT1|200",
            "MOVE|100(63)", "MOVE|100(63)", "MOVE|100(63)", "MOVE|100(10)", "NOP", "END|-500");
        c.run(7);
        Kit.due("what is left below 2 to the power 30", c.word(-10), -20);
        Kit.assemble(c, "OUT|0(9)", "HLT", "ORIG|90", "CON|-1073741803", "END|0");
        c.run(9);
        Kit.assemble(c, "ORIG|-12", "HLT", "ORIG|-10", "CON|4000", "ORIG|-500", "IN|-100(9)", "INT", "ORIG|0", "ENT1|200",
            "MOVE|100(63)", "MOVE|100(63)", "MOVE|100(63)", "MOVE|100(10)", "NOP", "END|-500");
        c.run(7);
        Kit.due("0 is +0", c.word(-10), 0);
    }

    private static void waiting() {
        String[] busy = {"OUT|1000(18)"};
        SixBitBoard b = watched("4000", busy, "OUT|1000(18)", "NOP");
        b.run(3);
        Kit.due("time", b.time(), 751);
        Kit.due("waiting is taken", b.word(-10), 4000 - (751 - 3));
        b = watched("747", busy, "OUT|1000(18)", "NOP");
        b.run(100);
        Kit.due("too long to wait", b.word(-11), 9);
        Kit.due("no time goes on", b.time(), 13);
        b = watched("748", busy, "OUT|1000(18)", "NOP");
        b.run(3);
        Kit.due("just long enough", b.word(-10), 0);
        b = watched("747", busy, "IN|0(18)", "NOP");
        b.run(100);
        Kit.due("ahead of fault 5", b.word(-11), 9);
        b = watched("748", busy, "IN|0(18)", "NOP");
        b.run(100);
        Kit.due("fault 5", b.word(-11), 5);
        b = watched("747", busy, "OUT|4000(18)", "NOP");
        b.run(100);
        Kit.due("ahead of fault 2", b.word(-11), 9);
        b = watched("1", busy, "OUT|1000(20)", "NOP");
        b.run(100);
        Kit.due("no unit, no waiting", b.word(-11), 5);
        b = watched("1", busy, "JBUS|5(18)", "NOP");
        b.run(3);
        Kit.due("JBUS does not wait", b.register(11), 5);
    }

    private static void returning() {
        SixBitBoard b = new SixBitBoard();
        Kit.assemble(b, "ORIG|-12", "HLT", "CON|0", "CON|4000", "CON|-5", "CON|-4096(0:5),1(5:5)", "CON|12", "CON|13",
            "CON|14", "CON|15", "CON|-0", "CON|-6", "CON|-100(0:2),10(3:3),0(4:4),7(5:5)", "ORIG|-100", "INT", "ORIG|7", "NOP", "END|-100");
        Kit.due("INT", b.run(1), 1);
        long[] want = {-5, -1, 12, 13, 14, 15, LEAST, -6, 100};
        for (int k = 0; k <= 8; k++) {
            Kit.due("register " + k, b.register(k), want[k]);
        }
        Kit.due("overflow", b.register(9), 1);
        Kit.due("10 modulo 8 is 2: greater", b.register(10), 1);
        Kit.due("counter", b.register(11), 7);
        Kit.due("u", b.time(), 2);
        int[] third = {0, 1, 2, 7, 8, 9, 63, 56};
        int[] less = {-1, 0, 1, 1, -1, 0, 1, -1};
        for (int k = 0; k < third.length; k++) {
            Kit.assemble(b, "ORIG|-1", "CON|" + third[k] + "(3:3)", "ORIG|-100", "INT", "END|-100");
            b.run(1);
            Kit.due("overflow of " + third[k], b.register(9), third[k] >= 8 ? 1 : 0);
            Kit.due("comparison of " + third[k], b.register(10), less[k]);
        }
        Kit.assemble(b, "ORIG|-12", "HLT", "ORIG|-1", "CON|4095", "ORIG|-100", "INT", "END|-100");
        b.run(9);
        Kit.due("a counter out of memory", b.word(-11), 2);
        Kit.due("is kept", b.word(-1), 4095);
    }

    private static void control() {
        SixBitBoard b = Kit.ran("ORIG|-3999", "LDA|-3999", "STA|3999", "JMP|*+1", "STJ|50", "STJ|51(4:5)", "LD1|50(0:2)", "LDX|4000", "END|-3999");
        Kit.due("a fault stops it in CONTROL", b.state(), 3);
        Kit.due("counter", b.register(11), -3993);
        Kit.due("memory below 0", b.word(3999), b.word(-3999));
        Kit.due("J below 0", b.register(8), -3996);
        Kit.due("STJ keeps its sign", b.register(1), -3996);
        Kit.due("bytes 4 and 5", b.word(51), 3996);
        Kit.due("no interrupt", b.word(-11), 0);
        b = Kit.ran("ORIG|-1", "JMP|*+1", "HLT", "END|-1");
        Kit.due("J is +0 behind -1", b.register(8), 0);
        Kit.due("from below 0 to 0 and on", b.register(11), 1);
        b = Kit.ran("ORIG|-1", "NOP", "LDA|-1", "HLT", "END|-1");
        Kit.due("it stays in CONTROL at 0", b.state(), 1);
        b = Kit.ran("ORIG|-5", "CMPA|=0=", "JL|*", "ENTA|1", "CMPA|=0=", "HLT", "END|-5");
        Kit.due("equal at first, greater then", b.register(10), 1);
        b = Kit.ran("ORIG|-5", "JMP|-4000", "END|-5");
        Kit.due("far jump", b.state(), 8);
        b = Kit.ran("ORIG|-5", "LDA|-4000", "END|-5");
        Kit.due("far address", b.state(), 3);
        b = Kit.ran("JMP|-1", "END|0");
        Kit.due("NORMAL for good", b.state(), 8);
        Kit.due("not watched: no interrupt", b.word(-11), 0);
        b = Kit.ran("ORIG|-3", "CON|1", "ORIG|0", "LDA|-3", "END|0");
        Kit.due("NORMAL reads nothing below 0", b.state(), 3);
    }

    private static void reader() {
        SixBitBoard b = new SixBitBoard();
        Kit.feed(b, "ONE\n*TWO\nTHREE\n").cards();
        Kit.assemble(b, "ORIG|-12", "IN|100(16)", "HLT", "CON|4000", "ORIG|-100", "INT", "ORIG|0", "IN|0(16)", "IN|20(16)", "END|-100");
        b.run(2);
        Kit.due("* and those behind count", b.unit(16), 2);
        b.run(100);
        Kit.due("not there in NORMAL", b.word(-11), 6);
        Kit.due("there in CONTROL", b.unit(16), 1);
        Kit.due("* read", b.word(100), (46L << 24) + (23 << 18) + (26 << 12) + (16 << 6));
        Kit.assemble(b, "ORIG|-12", "HLT", "ORIG|-10", "CON|0", "ORIG|-100", "IN|0(16)", "INT", "END|-100");
        b.run(1);
        Kit.due("none left", b.unit(16), 0);
    }

    private static void counting() {
        SixBitBoard b = watched("1", new String[0], "NOP", "NOP", "NOP");
        Kit.due("run 0", b.run(0), 0);
        Kit.due("INT and NOP", b.run(2), 2);
        Kit.due("not looked at yet", b.word(-11), 0);
        Kit.due("still in NORMAL", b.register(11), 1);
        Kit.due("run 0 looks at nothing", b.run(0), 0);
        Kit.due("still", b.register(11), 1);
        Kit.due("HLT of CONTROL", b.run(5), 1);
        Kit.due("interrupted", b.word(-11), 9);
        Kit.due("halted", b.state(), 1);
        b = Kit.ran("HLT", "END|0");
        Kit.due("stopped", b.run(100), 0);
        Kit.assemble(b, "JMP|0", "END|0");
        Kit.due("below 0", b.run(-1), 0);
        Kit.due("too many", b.run(100001), 0);
        Kit.due("nothing done", b.time(), 0);
        Kit.due("least", b.run(Integer.MIN_VALUE), 0);
        Kit.due("greatest", b.run(Integer.MAX_VALUE), 0);
        Kit.due("most", b.run(100000), 100000);
        Kit.due("u", b.time(), 100000);
        Kit.due("it runs", b.state(), 0);
        Kit.assemble(b, "NOP", "LDA|4000", "END|0");
        Kit.due("one", b.run(1), 1);
        Kit.due("the next is not looked at", b.state(), 0);
        Kit.due("none", b.run(1), 0);
        Kit.due("fault 2", b.state(), 3);
        // each instruction in NORMAL interrupts, each handler returns: interrupts are no instructions
        Kit.assemble(b, "ORIG|-12", "INT", "ORIG|-100", "INT", "END|-100");
        Kit.due("INT over and over", b.run(1000), 1000);
        Kit.due("u", b.time(), 2000);
        Kit.due("out of time each time", b.word(-11), 9);
    }

    private static void asking() {
        SixBitBoard b = Kit.ran("ENNA|0", "ENN3|0", "STA|5", "HLT", "END|0");
        Kit.due("-0 in A", b.register(0), LEAST);
        Kit.due("-0 in I3", b.register(3), LEAST);
        Kit.due("-0 in memory", b.word(5), LEAST);
        Kit.throwsNone("register -1", () -> b.register(-1));
        Kit.throwsNone("register 12", () -> b.register(12));
        Kit.throwsNone("register least", () -> b.register(Integer.MIN_VALUE));
        Kit.throwsNone("register greatest", () -> b.register(Integer.MAX_VALUE));
        Kit.throwsNone("word 4000", () -> b.word(4000));
        Kit.throwsNone("word -4000", () -> b.word(-4000));
        Kit.throwsNone("word least", () -> b.word(Integer.MIN_VALUE));
        Kit.throwsNone("word greatest", () -> b.word(Integer.MAX_VALUE));
    }
}
