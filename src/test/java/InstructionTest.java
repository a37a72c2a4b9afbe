/** Terms: words, fields and instructions, as run() does them (promises 8 and 19 to 22). */
public final class InstructionTest {
    private static final long FULL = (1 << 30) - 1;
    private static final long LEAST = Integer.MIN_VALUE;

    public static void main(String[] args) {
        adding();
        multiplying();
        dividing();
        converting();
        shifting();
        moving();
        loading();
        storing();
        jumping();
        testing();
        entering();
        comparing();
        costs();
        Kit.close();
    }

    private static void adding() {
        SixBitBoard b = Kit.ran("LDA|=12=", "ADD|=30=", "HLT", "END|0");
        Kit.due("12 + 30", b.register(0), 42);
        Kit.due("no overflow", b.register(9), 0);
        b = Kit.ran("LDA|=12=", "SUB|=30=", "HLT", "END|0");
        Kit.due("12 - 30", b.register(0), -18);
        b = Kit.ran("LDA|=1073741823=", "ADD|=2=", "HLT", "END|0");
        Kit.due("beyond", b.register(0), 1);
        Kit.due("overflow", b.register(9), 1);
        b = Kit.ran("LDA|=-1073741823=", "SUB|=1=", "HLT", "END|0");
        Kit.due("beyond below 0", b.register(0), LEAST);
        Kit.due("overflow", b.register(9), 1);
        b = Kit.ran("LDA|=1073741822=", "ADD|=1=", "HLT", "END|0");
        Kit.due("the greatest", b.register(0), FULL);
        Kit.due("no overflow", b.register(9), 0);
        b = Kit.ran("LDA|=5=", "SUB|=5=", "HLT", "END|0");
        Kit.due("5 - 5 keeps +", b.register(0), 0);
        b = Kit.ran("LDA|=-5=", "ADD|=5=", "HLT", "END|0");
        Kit.due("-5 + 5 keeps -", b.register(0), LEAST);
        b = Kit.ran("ENNA|0", "ADD|=0=", "HLT", "END|0");
        Kit.due("-0 + 0 keeps -", b.register(0), LEAST);
        b = Kit.ran("ADD|W(1:1)", "ADD|W(4:5)", "ADD|W(0:2)", "HLT", "W|CON|-1(0:1),2(2:2),3(3:3),4(4:4),5(5:5)", "END|0");
        Kit.due("fields", b.register(0), 1 + (4 * 64 + 5) - (64 + 2));
        b = Kit.ran("ENTA|9", "ADD|W(0:0)", "HLT", "W|CON|-77", "END|0");
        Kit.due("the sign alone is 0", b.register(0), 9);
        b = Kit.ran("LDA|=1073741823=", "ADD|=1=", "ADD|=1=", "HLT", "END|0");
        Kit.due("overflow stays on", b.register(9), 1);
    }

    private static void multiplying() {
        SixBitBoard b = Kit.ran("LDA|=-1073741823=", "MUL|=1073741823=", "HLT", "END|0");
        Kit.dueAX("the greatest product", b, -(FULL - 1), -1);
        b = Kit.ran("LDA|=-6=", "MUL|=-7=", "HLT", "END|0");
        Kit.dueAX("-6 * -7", b, 0, 42);
        b = Kit.ran("LDA|=6=", "MUL|=-7=", "HLT", "END|0");
        Kit.dueAX("6 * -7", b, LEAST, -42);
        b = Kit.ran("LDA|=6=", "MUL|W(1:5)", "HLT", "W|CON|-7", "END|0");
        Kit.dueAX("6 * 7 without its sign", b, 0, 42);
        b = Kit.ran("ENNA|0", "MUL|=5=", "HLT", "END|0");
        Kit.dueAX("-0 * 5", b, LEAST, LEAST);
        b = Kit.ran("LDA|=16777216=", "MUL|=128=", "HLT", "END|0");
        Kit.dueAX("2 to the power 31", b, 2, 0);
    }

    private static void dividing() {
        SixBitBoard b = Kit.ran("LDX|=17=", "DIV|=5=", "HLT", "END|0");
        Kit.dueAX("17 / 5", b, 3, 2);
        b = Kit.ran("ENNA|0", "LDX|=17=", "DIV|=5=", "HLT", "END|0");
        Kit.dueAX("A's sign counts", b, -3, -2);
        b = Kit.ran("ENNA|0", "LDX|=-17=", "DIV|=-5=", "HLT", "END|0");
        Kit.dueAX("signs of both", b, 3, -2);
        b = Kit.ran("LDX|=-17=", "DIV|=1=", "HLT", "END|0");
        Kit.dueAX("by 1", b, 17, 0);
        b = Kit.ran("ENTA|1", "LDX|=0=", "DIV|=2=", "HLT", "END|0");
        Kit.dueAX("ten bytes", b, 1 << 29, 0);
        b = Kit.ran("ENTA|2", "LDX|=7=", "DIV|=2=", "HLT", "END|0");
        Kit.dueAX("A not less", b, 2, 7);
        Kit.due("overflow", b.register(9), 1);
        b = Kit.ran("ENTA|2", "ENTX|7", "DIV|=0=", "HLT", "END|0");
        Kit.dueAX("by 0", b, 2, 7);
        Kit.due("overflow by 0", b.register(9), 1);
        b = Kit.ran("ENTX|7", "DIV|=-0=", "HLT", "END|0");
        Kit.due("overflow by -0", b.register(9), 1);
        Kit.due("u", b.time(), 23);
    }

    private static void converting() {
        SixBitBoard b = Kit.ran("LDA|=-12977700=", "CHAR|", "HLT", "END|0");
        Kit.dueAX("CHAR", b, -bytes(30, 30, 31, 32, 39), bytes(37, 37, 37, 30, 30));
        b = Kit.ran("LDA|A", "LDX|X", "NUM|", "HLT",
            "A|CON|-0(1:1),0(2:2),31(3:3),32(4:4),39(5:5)", "X|CON|37(1:1),57(2:2),47(3:3),30(4:4),30(5:5)", "END|0");
        Kit.dueAX("NUM", b, 12977700, bytes(37, 57, 47, 30, 30));
        b = Kit.ran("LDA|A", "LDX|A", "NUM|", "HLT", "A|CON|-9(0:1),9(2:2),9(3:3),9(4:4),9(5:5)", "END|0");
        Kit.due("NUM modulo, sign stays", b.register(0), -(9999999999L % (FULL + 1)));
        b = Kit.ran("CHAR|", "NUM|", "HLT", "END|0");
        Kit.dueAX("of 0", b, 0, bytes(30, 30, 30, 30, 30));
    }

    private static void shifting() {
        String[] w = {"A|CON|-1(0:1),2(2:2),3(3:3),4(4:4),5(5:5)", "X|CON|6(0:1),7(2:2),8(3:3),9(4:4),10(5:5)", "END|0"};
        shift("SLA|2", w, -bytes(3, 4, 5, 0, 0), bytes(6, 7, 8, 9, 10));
        shift("SLA|5", w, LEAST, bytes(6, 7, 8, 9, 10));
        shift("SLA|0", w, -bytes(1, 2, 3, 4, 5), bytes(6, 7, 8, 9, 10));
        shift("SRA|1", w, -bytes(0, 1, 2, 3, 4), bytes(6, 7, 8, 9, 10));
        shift("SRA|4095", w, LEAST, bytes(6, 7, 8, 9, 10));
        shift("SLAX|6", w, -bytes(7, 8, 9, 10, 0), 0);
        shift("SLAX|3", w, -bytes(4, 5, 6, 7, 8), bytes(9, 10, 0, 0, 0));
        shift("SLAX|10", w, LEAST, 0);
        shift("SRAX|4", w, -bytes(0, 0, 0, 0, 1), bytes(2, 3, 4, 5, 6));
        shift("SRAX|11", w, LEAST, 0);
        shift("SLC|3", w, -bytes(4, 5, 6, 7, 8), bytes(9, 10, 1, 2, 3));
        shift("SLC|4093", w, -bytes(4, 5, 6, 7, 8), bytes(9, 10, 1, 2, 3));
        shift("SRC|4", w, -bytes(7, 8, 9, 10, 1), bytes(2, 3, 4, 5, 6));
        shift("SRC|10", w, -bytes(1, 2, 3, 4, 5), bytes(6, 7, 8, 9, 10));
        shift("SLC|0", w, -bytes(1, 2, 3, 4, 5), bytes(6, 7, 8, 9, 10));
    }

    private static void shift(String what, String[] w, long a, long x) {
        SixBitBoard b = Kit.ran("LDA|A", "LDX|X", what, "HLT", w[0], w[1], w[2]);
        Kit.dueAX(what, b, a, x);
        Kit.due(what + ", u", b.time(), 16);
    }

    private static void moving() {
        SixBitBoard b = Kit.ran("ENT1|100", "MOVE|W(3)", "HLT", "W|CON|7", "CON|-8", "CON|-0", "END|0");
        Kit.due("first", b.word(100), 7);
        Kit.due("second", b.word(101), -8);
        Kit.due("third", b.word(102), LEAST);
        Kit.due("fourth", b.word(103), 0);
        Kit.due("I1", b.register(1), 103);
        Kit.due("u", b.time(), 1 + 7 + 10);
        b = Kit.ran("LDA|=9=", "STA|100", "ENT1|101", "MOVE|100(4)", "HLT", "END|0");
        Kit.due("one by one", b.word(104), 9);
        b = Kit.ran("ENN1|0", "MOVE|0(0)", "HLT", "END|0");
        Kit.due("F 0 keeps -0", b.register(1), LEAST);
        b = Kit.ran("ENN1|9", "MOVE|-5(0)", "HLT", "END|0");
        Kit.due("F 0 looks at no address", b.state(), 1);
        b = Kit.ran("ENT1|50", "MOVE|4", "HLT", "NOP", "CON|3", "END|0");
        Kit.due("F is 1 by name", b.word(50), 3);
        b = new SixBitBoard();
        Kit.assemble(b, "ORIG|-100", "ENT1|-3", "MOVE|W(3)", "HLT", "W|CON|1", "CON|2", "CON|3", "END|-100");
        b.run(10);
        Kit.due("in CONTROL below 0", b.word(-1), 3);
        Kit.due("I1's 0 keeps its sign", b.register(1), LEAST);
    }

    private static void loading() {
        String w = "W|CON|-1(0:1),2(2:2),3(3:3),4(4:4),5(5:5)";
        String[] ops = {"W", "W(1:5)", "W(3:5)", "W(0:3)", "W(4:4)", "W(0:0)", "W(1:1)"};
        long[] want = {-bytes(1, 2, 3, 4, 5), bytes(1, 2, 3, 4, 5), bytes(0, 0, 3, 4, 5), -bytes(0, 0, 1, 2, 3), 4, LEAST, 1};
        for (int k = 0; k < ops.length; k++) {
            SixBitBoard b = Kit.ran("LDA|" + ops[k], "LDXN|" + ops[k], "HLT", w, "END|0");
            Kit.dueAX("load " + ops[k], b, want[k], want[k] == LEAST ? 0 : -want[k]);
        }
        SixBitBoard b = Kit.ran("LDAN|9", "LDX|9", "HLT", "END|0");
        Kit.dueAX("LDAN of +0", b, LEAST, 0);
        for (int i = 1; i <= 6; i++) {
            b = Kit.ran("LD" + i + "|=-4095=", "HLT", "END|0");
            Kit.due("LD" + i, b.register(i), -4095);
            b = Kit.ran("LD" + i + "N|W(4:5)", "HLT", "W|CON|-4096(0:5),3(5:5)", "END|0");
            Kit.due("LD" + i + "N", b.register(i), -3);
            b = Kit.ran("LD" + i + "|=4096=", "HLT", "END|0");
            Kit.due("LD" + i + " of more", b.state(), 5);
            Kit.due("LD" + i + " touches nothing", b.register(i), 0);
        }
    }

    private static void storing() {
        String[] fill = {"W|CON|-1(0:1),2(2:2),3(3:3),4(4:4),5(5:5)", "A|CON|6(0:1),7(2:2),8(3:3),9(4:4),10(5:5)", "END|0"};
        String[] ops = {"W", "W(1:5)", "W(5:5)", "W(2:2)", "W(2:3)", "W(0:1)", "W(0:0)"};
        long[] want = {bytes(6, 7, 8, 9, 10), -bytes(6, 7, 8, 9, 10), -bytes(1, 2, 3, 4, 10), -bytes(1, 10, 3, 4, 5),
            -bytes(1, 9, 10, 4, 5), bytes(10, 2, 3, 4, 5), bytes(1, 2, 3, 4, 5)};
        for (int k = 0; k < ops.length; k++) {
            SixBitBoard b = Kit.ran("LDA|A", "STA|" + ops[k], "HLT", fill[0], fill[1], fill[2]);
            Kit.due("STA " + ops[k], b.word(3), want[k]);
            b = Kit.ran("LDX|A", "STX|" + ops[k], "HLT", fill[0], fill[1], fill[2]);
            Kit.due("STX " + ops[k], b.word(3), want[k]);
        }
        SixBitBoard b = Kit.ran("STZ|W", "HLT", fill[0], "END|0");
        Kit.due("STZ", b.word(2), 0);
        b = Kit.ran("STZ|W(2:4)", "HLT", fill[0], "END|0");
        Kit.due("STZ of a field", b.word(2), -bytes(1, 0, 0, 0, 5));
        b = Kit.ran("ENN3|200", "ST3|W", "HLT", fill[0], "END|0");
        Kit.due("ST3: bytes 1 to 3 are 0", b.word(3 - 0), -200);
        b = Kit.ran("JMP|*+1", "STJ|W", "HLT", "W|CON|-1(0:5)", "END|0");
        Kit.due("STJ's field is (0:2)", b.word(3), (1L << 18) + 1);
    }

    private static void jumping() {
        SixBitBoard b = Kit.ran("NOP", "JMP|5", "HLT", "HLT", "HLT", "HLT", "END|0");
        Kit.due("JMP", b.register(11), 6);
        Kit.due("J", b.register(8), 2);
        b = Kit.ran("NOP", "JSJ|5", "HLT", "HLT", "HLT", "HLT", "END|0");
        Kit.due("JSJ", b.register(11), 6);
        Kit.due("J stays", b.register(8), 0);
        String on = "LDA|=1073741823=";
        b = Kit.ran(on, "INCA|1", "JOV|5", "HLT", "HLT", "HLT", "END|0");
        Kit.due("JOV on", b.register(11), 6);
        Kit.due("off then", b.register(9), 0);
        b = Kit.ran("JOV|5", "HLT", "END|0");
        Kit.due("JOV off", b.register(11), 2);
        Kit.due("no jump leaves J", b.register(8), 0);
        b = Kit.ran("JNOV|3", "HLT", "HLT", "HLT", "END|0");
        Kit.due("JNOV off", b.register(11), 4);
        b = Kit.ran(on, "INCA|1", "JNOV|5", "HLT", "HLT", "HLT", "END|0");
        Kit.due("JNOV on", b.register(11), 4);
        Kit.due("off then", b.register(9), 0);
        String[] names = {"JL", "JE", "JG", "JGE", "JNE", "JLE"};
        String holds = "100 010 001 011 101 110";
        for (int k = 0; k < 6; k++) {
            for (int v = -1; v <= 1; v++) {
                b = Kit.ran("ENTA|" + v, "CMPA|=0=", names[k] + "|5", "HLT", "HLT", "HLT", "END|0");
                Kit.due(names[k] + " of " + v, b.register(11), holds.charAt(4 * k + v + 1) == '1' ? 6 : 4);
            }
        }
    }

    private static void testing() {
        String[] tests = {"N", "Z", "P", "NN", "NZ", "NP"};
        String holds = "100 010 001 011 101 110";
        for (char r : "A123456X".toCharArray()) {
            for (int k = 0; k < 6; k++) {
                for (int v = -1; v <= 2; v++) {
                    String set = v == 2 ? "ENN" + r + "|0" : "ENT" + r + "|" + v;
                    int value = v == 2 ? 0 : v;
                    SixBitBoard b = Kit.ran(set, "J" + r + tests[k] + "|4", "HLT", "HLT", "HLT", "END|0");
                    Kit.due(set + " J" + r + tests[k], b.register(11), holds.charAt(4 * k + value + 1) == '1' ? 5 : 3);
                }
            }
        }
    }

    private static void entering() {
        for (int k = 0; k <= 7; k++) {
            char r = "A123456X".charAt(k);
            SixBitBoard b = Kit.ran("ENT" + r + "|-7", "INC" + r + "|10", "DEC" + r + "|3", "HLT", "END|0");
            Kit.due("a 0 keeps + in " + r, b.register(k), 0);
            b = Kit.ran("ENN" + r + "|7", "INC" + r + "|7", "HLT", "END|0");
            Kit.due("a 0 keeps - in " + r, b.register(k), LEAST);
            b = Kit.ran("ENT" + r + "|-0", "HLT", "END|0");
            Kit.due("ENT -0 of " + r, b.register(k), LEAST);
            b = Kit.ran("ENN" + r + "|0", "HLT", "END|0");
            Kit.due("ENN 0 of " + r, b.register(k), LEAST);
            b = Kit.ran("ENN" + r + "|-0", "HLT", "END|0");
            Kit.due("ENN -0 of " + r, b.register(k), 0);
            b = Kit.ran("ENT2|5", "ENT" + r + "|-5,2", "HLT", "END|0");
            Kit.due("M is 0: the instruction's sign, " + r, b.register(k), LEAST);
            b = Kit.ran("ENT2|4095", "ENT" + r + "|1,2", "HLT", "END|0");
            boolean index = k >= 1 && k <= 6;
            Kit.due("ENT beyond of " + r, b.state(), index ? 5 : 1);
            b = Kit.ran("ENT" + r + "|4095", "INC" + r + "|1", "HLT", "END|0");
            Kit.due("INC beyond of " + r, b.state(), index ? 5 : 1);
            Kit.due("it stays in " + r, b.register(k), index ? 4095 : 4096);
            b = Kit.ran("ENN" + r + "|4095", "DEC" + r + "|1", "HLT", "END|0");
            Kit.due("DEC beyond of " + r, b.state(), index ? 5 : 1);
        }
        SixBitBoard b = Kit.ran("LDX|=1073741823=", "INCX|2", "HLT", "END|0");
        Kit.due("INCX as ADD", b.register(7), 1);
        Kit.due("overflow", b.register(9), 1);
        b = Kit.ran("LDA|=-1073741823=", "DECA|3", "HLT", "END|0");
        Kit.due("DECA as ADD", b.register(0), -2);
        b = Kit.ran("ENT4|-3", "ENT5|10,4", "HLT", "END|0");
        Kit.due("the index is added", b.register(5), 7);
        for (int i = 1; i <= 6; i++) {
            b = Kit.ran("ENT" + i + "|-3", "LDA|6," + i, "ENTX|0," + i, "HLT", "END|0");
            Kit.dueAX("index " + i, b, 133, -3);
        }
    }

    private static void comparing() {
        String[][] runs = {
            {"ENTA|5", "CMPA|=6=", "-1"}, {"ENTA|5", "CMPA|=5=", "0"}, {"ENTA|5", "CMPA|=-5=", "1"},
            {"ENNA|0", "CMPA|=0=", "0"}, {"ENTA|5", "CMPA|W(1:5)", "0"}, {"ENTA|5", "CMPA|W(0:0)", "0"},
            {"ENTX|261", "CMPX|V(5:5)", "0"}, {"ENTX|261", "CMPX|V", "1"}, {"ENT3|5", "CMP3|W", "1"},
            {"ENT3|5", "CMP3|W(1:3)", "0"}, {"ENT3|5", "CMP3|V(1:4)", "0"}, {"ENN6|1", "CMP6|=0=", "-1"}};
        for (String[] run : runs) {
            SixBitBoard b = Kit.ran(run[0], run[1], "HLT", "W|CON|-5", "V|CON|5", "END|0");
            Kit.due(run[0] + " " + run[1], b.register(10), Integer.parseInt(run[2]));
        }
    }

    private static void costs() {
        String[] ops = {"NOP|", "ADD|50", "SUB|50", "MUL|50", "NUM|", "CHAR|", "SLA|1", "SRC|1", "MOVE|50(0)", "LDA|50",
            "LD3N|50", "STX|50", "ST2|50", "STJ|50", "STZ|50", "JBUS|50(3)", "JRED|*+1(3)", "JMP|*+1", "JAN|50", "INCA|1",
            "ENN4|1", "CMPX|50", "DIV|50"};
        int[] u = {1, 2, 2, 10, 10, 10, 2, 2, 1, 2, 2, 2, 2, 2, 2, 1, 1, 1, 1, 1, 1, 2, 12};
        for (int k = 0; k < ops.length; k++) {
            SixBitBoard b = new SixBitBoard();
            Kit.assemble(b, ops[k], "HLT", "END|0");
            Kit.due(ops[k], b.run(1), 1);
            Kit.due(ops[k] + ", u", b.time(), u[k]);
            Kit.due(ops[k] + ", HLT", b.run(5), 1);
            Kit.due(ops[k] + ", u of HLT", b.time(), u[k] + 10);
            Kit.due(ops[k] + ", counter", b.register(11), 2);
        }
    }

    private static long bytes(int a, int b, int c, int d, int e) {
        return (((a * 64L + b) * 64 + c) * 64 + d) * 64 + e;
    }
}
