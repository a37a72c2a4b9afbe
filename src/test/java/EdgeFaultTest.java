/** The sentences of the terms about FAULTS, one test each: every kind, its edges, and which one comes first. */
public final class EdgeFaultTest {
    public static void main(String[] args) {
        stopAhead();
        noSuchIndex();
        noSuchOperation();
        addresses();
        moveGoesOver();
        unitGoesOver();
        counterOut();
        noField();
        twoBytes();
        noUnit();
        cannotDo();
        noMoreBlocks();
        noMoreCards();
        jumpsOut();
        lowest();
        touchNothing();
        Kit.close();
    }

    /** The state in which these lines (none has a symbol) stop. */
    private static int state(String... lines) {
        String[] all = new String[lines.length + 2];
        System.arraycopy(lines, 0, all, 0, lines.length);
        all[lines.length] = "HLT";
        all[lines.length + 1] = "END|0";
        return Kit.ran(all).state();
    }

    private static void stopAhead() {
        Kit.told("FAULTS stop the machine ahead of the instruction (u stays)");
        String[] faults = {"CON|7(3:3)", "LDA|4000", "LDA|0(6)", "LD1|0", "IN|0(20)", "IN|0(16)", "JMP|4000"};
        for (int k = 0; k < faults.length; k++) {
            SixBitBoard b = new SixBitBoard();
            Kit.assemble(b, "ENTA|5", "ENT1|6", faults[k], "HLT", "END|0");
            Kit.due(faults[k] + ", done", b.run(9), 2);
            Kit.due(faults[k] + ", state", b.state(), k + 2);
            Kit.due(faults[k] + ", counter", b.register(11), 2);
            Kit.due(faults[k] + ", u", b.time(), 2);
            Kit.due(faults[k] + ", A", b.register(0), 5);
            Kit.due(faults[k] + ", I1", b.register(1), 6);
            Kit.due(faults[k] + ", J", b.register(8), 0);
            Kit.due(faults[k] + ", no more is done", b.run(9), 0);
        }
    }

    private static void noSuchIndex() {
        Kit.told("1 no such index");
        for (int index = 0; index <= 63; index++) {
            Kit.due("index " + index, state(Kit.instruction(0, index, 5, 8)), index <= 6 ? 1 : 2);
            Kit.due("index " + index + " of C 0", state(Kit.instruction(0, index, 0, 0)), index <= 6 ? 1 : 2);
        }
    }

    /** How many F an operation has that differ by F; 64 when any F is one. */
    private static int most(int c) {
        if (c == 5) {
            return 3;
        }
        if (c == 6 || c >= 40 && c <= 47) {
            return 6;
        }
        if (c == 39) {
            return 10;
        }
        return c >= 48 && c <= 55 ? 4 : 64;
    }

    private static void noSuchOperation() {
        Kit.told("1 no such C, F");
        for (int c = 0; c <= 63; c++) {
            for (int f = 0; f <= 63; f++) {
                SixBitBoard b = new SixBitBoard();
                Kit.assemble(b, Kit.instruction(0, 0, f, c), "END|0");
                b.run(1);
                Kit.due("C " + c + " F " + f, b.state() == 2, f >= most(c));
            }
        }
    }

    private static void addresses() {
        Kit.told("2 an address out of memory");
        for (int c = 1; c <= 63; c++) {
            boolean hasField = c <= 4 || c >= 8 && c <= 33 || c >= 56;
            if (hasField) {
                Kit.due("0, C " + c, state(Kit.instruction(0, 0, 0, c)), 1);
                Kit.due("3999, C " + c, state(Kit.instruction(3999, 0, 0, c)), 1);
                Kit.due("4000, C " + c, state(Kit.instruction(4000, 0, 0, c)), 3);
                Kit.due("-1, C " + c, state(Kit.instruction(-1, 0, 0, c)), 3);
                Kit.due("4095, C " + c, state(Kit.instruction(4095, 0, 0, c)), 3);
                Kit.due("-4095, C " + c, state(Kit.instruction(-4095, 0, 0, c)), 3);
            }
        }
        Kit.due("-0 is 0", state("LDA|-0"), 1);
    }

    private static void moveGoesOver() {
        Kit.told("2 also of a word that MOVE goes over");
        Kit.due("from 3999", state("ENT1|9", "MOVE|3999(1)"), 1);
        Kit.due("from 3999 two", state("ENT1|9", "MOVE|3999(2)"), 3);
        Kit.due("from 3937", state("ENT1|9", "MOVE|3937(63)"), 1);
        Kit.due("from 3938", state("ENT1|9", "MOVE|3938(63)"), 3);
        Kit.due("from -1", state("ENT1|9", "MOVE|-1(5)"), 3);
        Kit.due("to 3999", state("ENT1|3999", "MOVE|9(1)"), 1);
        Kit.due("to 3999 two", state("ENT1|3999", "MOVE|9(2)"), 3);
        Kit.due("to 4000", state("ENT1|4000", "MOVE|9(1)"), 3);
        Kit.due("to 3937", state("ENT1|3937", "MOVE|9(63)"), 1);
        Kit.due("to 3938", state("ENT1|3938", "MOVE|9(63)"), 3);
        Kit.due("to -1", state("ENN1|1", "MOVE|9(5)"), 3);
        Kit.due("to -0", state("ENN1|0", "MOVE|9(1)"), 1);
    }

    private static int wordsOf(int u) {
        if (u < 16) {
            return 100;
        }
        if (u <= 17) {
            return 16;
        }
        if (u == 18) {
            return 24;
        }
        return u == 19 ? 14 : 1;
    }

    private static void unitGoesOver() {
        Kit.told("of a unit's words 2, by as many as it has, of none one");
        for (int u = 0; u <= 63; u++) {
            int last = 4000 - wordsOf(u);
            for (String op : new String[] {"IN", "OUT"}) {
                Kit.due(op + " of " + u + " just in", state(op + "|" + last + "(" + u + ")") == 3, false);
                Kit.due(op + " of " + u + " just out", state(op + "|" + (last + 1) + "(" + u + ")"), 3);
                Kit.due(op + " of " + u + " at 0", state(op + "|0(" + u + ")") == 3, false);
                Kit.due(op + " of " + u + " below 0", state(op + "|-1(" + u + ")"), 3);
            }
            Kit.due("IOC of " + u + ": M is no address", state("IOC|4095(" + u + ")") == 3, false);
        }
    }

    private static void counterOut() {
        Kit.told("2 or an instruction counter out of memory");
        SixBitBoard b = Kit.ran("ORIG|3999", "ENTA|1", "END|3999");
        Kit.due("state", b.state(), 3);
        Kit.due("counter", b.register(11), 4000);
        Kit.due("u", b.time(), 1);
        b = Kit.ran("ORIG|-1", "ORIG|3999", "NOP", "END|3999");
        Kit.due("from 3999", b.state(), 3);
        b = Kit.ran("ORIG|-3999", "JMP|3999", "ORIG|3999", "NOP", "END|-3999");
        Kit.due("in CONTROL", b.state(), 3);
        Kit.due("in CONTROL, counter", b.register(11), 4000);
    }

    private static void noField() {
        Kit.told("3 a field that is none");
        int[] none = {6, 7, 8, 14, 15, 16, 17, 22, 24, 26, 32, 35, 40, 44, 46, 47, 48, 53, 54, 63};
        int[] fields = {0, 5, 9, 13, 18, 21, 27, 29, 36, 37, 45};
        for (int f : none) {
            Kit.due("none: " + f, state("LDA|0(" + f + ")"), 4);
        }
        for (int f : fields) {
            Kit.due("one: " + f, state("LDA|0(" + f + ")"), 1);
        }
    }

    private static void twoBytes() {
        Kit.told("4 more than two bytes for an Ii (loads too)");
        for (int i = 1; i <= 6; i++) {
            for (String n : new String[] {"", "N"}) {
                String op = "LD" + i + n;
                Kit.due(op + " 4095", Kit.ran(op + "|W", "HLT", "W|CON|-4095", "END|0").state(), 1);
                Kit.due(op + " 4096", Kit.ran(op + "|W", "HLT", "W|CON|4096", "END|0").state(), 5);
                Kit.due(op + " -4096", Kit.ran(op + "|W", "HLT", "W|CON|-4096", "END|0").state(), 5);
                Kit.due(op + " of two bytes", Kit.ran(op + "|W(1:2)", "HLT", "W|CON|-1073741823", "END|0").state(), 1);
                Kit.due(op + " of three bytes, the first 0", Kit.ran(op + "|W(3:5)", "HLT", "W|CON|63(1:2),4095(4:5)", "END|0").state(), 1);
                Kit.due(op + " of three bytes", Kit.ran(op + "|W(1:3)", "HLT", "W|CON|1(1:1)", "END|0").state(), 5);
            }
        }
        Kit.due("A has more", Kit.ran("LDA|W", "HLT", "W|CON|4096", "END|0").state(), 1);
        Kit.due("X has more", Kit.ran("LDXN|W", "HLT", "W|CON|4096", "END|0").state(), 1);
    }

    private static void noUnit() {
        Kit.told("5 no such unit (F above 19, too)");
        for (int f = 20; f <= 63; f++) {
            for (String op : new String[] {"JBUS", "IOC", "IN", "OUT", "JRED"}) {
                Kit.due(op + " " + f, state(op + "|0(" + f + ")"), 6);
            }
        }
        for (int f = 0; f <= 19; f++) {
            Kit.due("JBUS " + f, state("JBUS|0(" + f + ")"), 1);
            Kit.due("JRED " + f, state("JRED|1(" + f + ")"), 1);
        }
    }

    private static void cannotDo() {
        Kit.told("5 or it can't do that");
        for (int u = 0; u <= 19; u++) {
            boolean reads = u <= 16;
            boolean writes = u != 16;
            boolean turns = u <= 15 || u == 18;
            SixBitBoard b = new SixBitBoard();
            Kit.feed(b, "CARD").cards();
            Kit.assemble(b, "IN|100(" + u + ")", "HLT", "END|0");
            b.run(9);
            Kit.due("IN " + u, b.state(), reads ? 1 : 6);
            Kit.due("OUT " + u, state("OUT|100(" + u + ")"), writes ? 1 : 6);
            Kit.due("IOC " + u, state("IOC|0(" + u + ")"), turns ? 1 : 6);
            Kit.due("IOC 1 of " + u, state("IOC|1(" + u + ")"), u <= 7 ? 1 : 6);
        }
    }

    private static void noMoreBlocks() {
        Kit.told("6 the unit has no more (block)");
        for (int u = 0; u <= 7; u++) {
            for (String op : new String[] {"IN", "OUT"}) {
                Kit.due(op + " at 63", state("IOC|63(" + u + ")", op + "|0(" + u + ")"), 1);
                Kit.due(op + " at 64", state("IOC|64(" + u + ")", op + "|0(" + u + ")"), 7);
                Kit.due(op + " behind 63", state("IOC|63(" + u + ")", "OUT|0(" + u + ")", op + "|0(" + u + ")"), 7);
            }
        }
        for (int u = 8; u <= 15; u++) {
            for (String op : new String[] {"IN", "OUT", "IOC"}) {
                for (int x : new int[] {-1, -64, 64, 65, 127, 128, 4095}) {
                    Kit.due(op + " of block " + x, state("ENTX|" + x, op + "|0(" + u + ")"), 7);
                }
                Kit.due(op + " of block 63", state("ENTX|63", op + "|0(" + u + ")"), 1);
                Kit.due(op + " of block -0", state("ENNX|0", op + "|0(" + u + ")"), 1);
            }
        }
        Kit.due("a great X", Kit.ran("LDX|W", "IN|100(8)", "HLT", "W|CON|1073741823", "END|0").state(), 7);
    }

    private static void noMoreCards() {
        Kit.told("6 the unit has no more (card)");
        SixBitBoard b = new SixBitBoard();
        Kit.feed(b, "\n").cards();
        Kit.assemble(b, "IN|100(16)", "IN|100(16)", "END|0");
        Kit.due("one", b.run(9), 1);
        Kit.due("no second one", b.state(), 7);
    }

    private static void jumpsOut() {
        Kit.told("7 a jump (that is done) to an address out of memory");
        String[] done = {"JMP", "JSJ", "JNOV", "JE", "JGE", "JLE", "JAZ", "JANN", "JANP", "J1Z", "J6NN", "JXZ", "JXNP"};
        String[] not = {"JOV", "JL", "JG", "JNE", "JAN", "JAP", "JANZ", "J3N", "J4P", "J5NZ", "JXN", "JXP", "JXNZ"};
        for (String op : done) {
            Kit.due(op + " 4000", state("NOP", op + "|4000"), 8);
            Kit.due(op + " -1", state("NOP", op + "|-1"), 8);
        }
        for (String op : not) {
            Kit.due(op + " 4000", state("NOP", op + "|4000"), 1);
            Kit.due(op + " -1", state("NOP", op + "|-1"), 1);
        }
        Kit.due("JRED of a free one", state("JRED|4000(5)"), 8);
        Kit.due("JRED of a busy one", state("OUT|0(5)", "JRED|4000(5)"), 1);
        Kit.due("JBUS of a busy one", state("OUT|0(5)", "JBUS|-1(5)"), 8);
        Kit.due("JBUS of a free one", state("JBUS|-1(5)"), 1);
        SixBitBoard b = Kit.ran("JMP|3999", "ORIG|3999", "HLT", "END|0");
        Kit.due("3999 is in memory", b.state(), 1);
    }

    private static void lowest() {
        Kit.told("The lowest number that holds");
        Kit.due("1 and 2", state(Kit.instruction(4000, 7, 5, 8)), 2);
        Kit.due("1 and 7", state(Kit.instruction(4000, 0, 10, 39)), 2);
        Kit.due("2 and 3", state("LDA|4000(6)"), 3);
        Kit.due("2 and 3, below 0", state("CMPX|-1(63)"), 3);
        Kit.due("2 and 5", state("IN|3990(17)"), 3);
        Kit.due("2 and 5 of none", state("OUT|4000(20)"), 3);
        Kit.due("2 and 6", state("IN|3990(16)"), 3);
        Kit.due("2 and 6 of a tape", state("IOC|64(1)", "OUT|3901(1)"), 3);
        Kit.due("2 and 6 of a disk", state("ENTX|64", "OUT|-1(9)"), 3);
        Kit.due("3 and 4", Kit.ran("LD1|W(6)", "HLT", "W|CON|-1073741823", "END|0").state(), 4);
        Kit.due("5 and 6 of a disk", state("ENTX|64", "IOC|1(9)"), 6);
        Kit.due("5 and 6 of the reader", state("OUT|0(16)"), 6);
        Kit.due("5 and 7", state("JRED|4000(20)"), 6);
    }

    private static void touchNothing() {
        Kit.told("MOVE and IN touch nothing then");
        SixBitBoard b = Kit.ran("ENT1|3997", "MOVE|4(4)", "HLT", "ORIG|4", "CON|1", "CON|2", "CON|3", "CON|4", "END|0");
        Kit.due("MOVE", b.state(), 3);
        for (int a = 3997; a <= 3999; a++) {
            Kit.due("word " + a, b.word(a), 0);
        }
        Kit.due("I1", b.register(1), 3997);
        b = new SixBitBoard();
        Kit.feed(b, "A".repeat(500)).mount(3, 0);
        Kit.assemble(b, "IN|3950(3)", "END|0");
        b.run(9);
        Kit.due("IN", b.state(), 3);
        Kit.due("the tape stands", b.unit(3), 0);
        Kit.due("memory", b.word(3950), 0);
        Kit.feed(b, "CARD").cards();
        Kit.assemble(b, "IN|3985(16)", "END|0");
        b.run(9);
        Kit.due("IN of a card", b.state(), 3);
        Kit.due("the card stays", b.unit(16), 1);
    }
}
