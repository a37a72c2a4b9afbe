import java.math.BigInteger;

/** The sentences of the terms WORDS, REGISTERS and INSTRUCTIONS that name an edge, one test each. */
public final class EdgeWordTest {
    private static final long LEAST = Kit.LEAST;
    private static final int FULL = (1 << 30) - 1;
    private static final String W = "W|CON|-1(0:1),2(2:2),3(3:3),4(4:4),5(5:5)";
    private static final int[] BYTES = {1, 2, 3, 4, 5};

    public static void main(String[] args) {
        magnitude();
        zeros();
        fields();
        fieldValues();
        memoryEnds();
        nothing();
        sums();
        sumZero();
        products();
        quotients();
        noQuotient();
        numbers();
        characters();
        halt();
        shiftsBelow();
        shiftsFar();
        moveNothing();
        moveOn();
        moveZero();
        moveCost();
        loadSigns();
        storeSigns();
        busyEnds();
        jumpAlways();
        overflowJumps();
        jumpsSetJ();
        zeroTests();
        increase();
        enterZero();
        enterFar();
        compareFields();
        wholeNumber();
        indexWords();
        Kit.close();
    }

    private static void magnitude() {
        Kit.told("its MAGNITUDE is below 2 to the power 30");
        SixBitBoard b = Kit.ran("LDA|W", "LDX|V", "HLT", "W|CON|1073741823", "V|CON|-1073741823", "END|0");
        Kit.dueAX("the greatest ones", b, FULL, -FULL);
        Kit.due("in memory", b.word(3), FULL);
        Kit.due("in memory, -", b.word(4), -FULL);
    }

    private static void zeros() {
        Kit.told("+0 and -0 are two words that compare as equal");
        SixBitBoard b = Kit.ran("ENNA|0", "ENTX|0", "CMPA|P", "HLT", "P|CON|0", "M|CON|-0", "END|0");
        Kit.dueAX("two words", b, LEAST, 0);
        Kit.due("-0 and +0", b.register(10), 0);
        b = Kit.ran("CMPX|M", "HLT", "M|CON|-0", "END|0");
        Kit.due("+0 and -0", b.register(10), 0);
        b = Kit.ran("ENN4|0", "CMP4|P", "HLT", "P|CON|0", "END|0");
        Kit.due("an index register's", b.register(10), 0);
    }

    private static boolean isField(int f) {
        return f / 8 <= f % 8 && f % 8 <= 5;
    }

    private static void fields() {
        Kit.told("A FIELD (L:R), as a number 8 * L + R, 0 <= L <= R <= 5");
        for (int c = 1; c <= 63; c++) {
            boolean hasField = c <= 4 || c >= 8 && c <= 33 || c >= 56;
            for (int f = 0; hasField && f <= 63; f++) {
                SixBitBoard b = new SixBitBoard();
                Kit.assemble(b, Kit.instruction(9, 0, f, c), "END|0");
                Kit.due("C " + c + " F " + f, b.run(1), isField(f) ? 1 : 0);
                Kit.due("C " + c + " F " + f + ", state", b.state(), isField(f) ? 0 : 4);
            }
        }
    }

    private static void fieldValues() {
        Kit.told("takes bytes L .. R (0 being the sign)");
        for (int f = 0; f <= 45; f++) {
            if (isField(f)) {
                long bytes = 0;
                for (int k = Math.max(f / 8, 1); k <= f % 8; k++) {
                    bytes = bytes * 64 + BYTES[k - 1];
                }
                long want = f >= 8 ? bytes : bytes == 0 ? LEAST : -bytes;
                SixBitBoard b = Kit.ran("LDA|W(" + f + ")", "HLT", W, "END|0");
                Kit.due("F " + f, b.register(0), want);
            }
        }
    }

    private static void memoryEnds() {
        Kit.told("MEMORY: words -3999 to 3999");
        SixBitBoard b = new SixBitBoard();
        Kit.due("both ends", Kit.assemble(b, "ORIG|-3999", "CON|-7", "ORIG|3999", "CON|8", "ORIG|-50", "ENTA|9", "STA|-3999", "STA|3999", "LDX|-3999", "HLT", "END|-50"), 7);
        Kit.due("the first", b.word(-3999), -7);
        Kit.due("the last", b.word(3999), 8);
        b.run(9);
        Kit.due("the first, stored", b.word(-3999), 9);
        Kit.due("the last, stored", b.word(3999), 9);
        Kit.due("the first, loaded", b.register(7), 9);
    }

    private static void nothing() {
        Kit.told("0 nothing (1)");
        for (int f = 0; f <= 63; f++) {
            SixBitBoard b = new SixBitBoard();
            Kit.assemble(b, Kit.instruction(-4095, 6, f, 0), "END|0");
            Kit.due("F " + f, b.run(1), 1);
            Kit.due("F " + f + ", u", b.time(), 1);
            Kit.due("F " + f + ", counter", b.register(11), 1);
        }
    }

    private static void sum(String op, long a, long v, long want, int overflow) {
        SixBitBoard b = Kit.ran("LDA|A", op + "|V", "HLT", "A|CON|" + a, "V|CON|" + v, "END|0");
        Kit.due(a + " " + op + " " + v, b.register(0), want);
        Kit.due(a + " " + op + " " + v + ", overflow", b.register(9), overflow);
    }

    private static void sums() {
        Kit.told("beyond the magnitude overflow is on, what is left below 2 to the power 30 stays, with the sum's sign");
        sum("ADD", FULL, 0, FULL, 0);
        sum("ADD", FULL - 1, 1, FULL, 0);
        sum("ADD", FULL, 1, 0, 1);
        sum("ADD", FULL, 2, 1, 1);
        sum("ADD", FULL, FULL, FULL - 1, 1);
        sum("ADD", -FULL, -1, LEAST, 1);
        sum("ADD", -FULL, -FULL, -(FULL - 1), 1);
        sum("SUB", -FULL, 1, LEAST, 1);
        sum("SUB", -FULL, 0, -FULL, 0);
        sum("SUB", FULL, -5, 4, 1);
        sum("SUB", FULL, FULL, 0, 0);
    }

    private static void sumZero() {
        Kit.told("a result 0 keeps A's sign");
        sum("ADD", 5, -5, 0, 0);
        sum("ADD", -5, 5, LEAST, 0);
        sum("SUB", 5, 5, 0, 0);
        sum("SUB", -5, -5, LEAST, 0);
        SixBitBoard b = Kit.ran("ENNA|0", "SUB|V", "HLT", "V|CON|0", "END|0");
        Kit.due("-0 - 0", b.register(0), LEAST);
        b = Kit.ran("ENTA|0", "ADD|V", "HLT", "V|CON|-0", "END|0");
        Kit.due("+0 + -0", b.register(0), 0);
    }

    private static void products() {
        Kit.told("MUL: A times V, ten bytes in A and X, both with the sign");
        long[][] pairs = {{FULL, FULL}, {-FULL, FULL}, {FULL, -FULL}, {-FULL, -FULL}, {1, FULL}, {32768, 32768}, {-32768, 32768}, {32767, 32769}};
        for (long[] p : pairs) {
            long all = Math.abs(p[0]) * Math.abs(p[1]);
            boolean minus = p[0] < 0 != p[1] < 0;
            SixBitBoard b = Kit.ran("LDA|A", "MUL|V", "HLT", "A|CON|" + p[0], "V|CON|" + p[1], "END|0");
            Kit.dueAX(p[0] + " * " + p[1], b, shown(all >> 30, minus), shown(all & FULL, minus));
            Kit.due("no overflow", b.register(9), 0);
        }
    }

    private static long shown(long magnitude, boolean minus) {
        return minus ? magnitude == 0 ? LEAST : -magnitude : magnitude;
    }

    private static SixBitBoard divided(long a, long x, long v) {
        return Kit.ran("LDA|A", "LDX|X", "DIV|V", "HLT", "A|CON|" + a, "X|CON|" + x, "V|CON|" + v, "END|0");
    }

    private static void quotients() {
        Kit.told("DIV: A the quotient, its sign by both, X the rest with the sign that A had");
        long[][] runs = {{FULL - 1, FULL, FULL}, {-(FULL - 1), FULL, FULL}, {FULL - 1, -FULL, -FULL}, {-(FULL - 1), 0, -FULL}, {1, 0, 2}, {-1, -1, 2}};
        for (long[] r : runs) {
            BigInteger both = BigInteger.valueOf(Math.abs(r[0])).shiftLeft(30).add(BigInteger.valueOf(Math.abs(r[1])));
            BigInteger[] parts = both.divideAndRemainder(BigInteger.valueOf(Math.abs(r[2])));
            SixBitBoard b = divided(r[0], r[1], r[2]);
            Kit.dueAX(r[0] + ", " + r[1] + " by " + r[2], b, shown(parts[0].longValue(), r[0] < 0 != r[2] < 0), shown(parts[1].longValue(), r[0] < 0));
            Kit.due("no overflow", b.register(9), 0);
        }
    }

    private static void noQuotient() {
        Kit.told("when V is 0 or A's magnitude is not less than V's: overflow, A and X stay (12)");
        long[][] runs = {{0, 7, 0}, {5, 7, 0}, {5, -7, 5}, {-5, 7, 5}, {5, 7, -5}, {6, 7, 5}, {-FULL, 7, 1}, {FULL, FULL, FULL}};
        for (long[] r : runs) {
            SixBitBoard b = divided(r[0], r[1], r[2]);
            Kit.dueAX(r[0] + ", " + r[1] + " by " + r[2], b, r[0], r[1]);
            Kit.due("overflow", b.register(9), 1);
            Kit.due("u", b.time(), 2 + 2 + 12 + 10);
        }
        Kit.due("one less", divided(4, 7, 5).register(9), 0);
        SixBitBoard b = Kit.ran("ENTA|1", "ENTX|7", "DIV|V", "HLT", "V|CON|-0", "END|0");
        Kit.dueAX("by -0", b, 1, 7);
        Kit.due("overflow by -0", b.register(9), 1);
    }

    private static SixBitBoard num(String digits) {
        String[] con = new String[2];
        for (int w = 0; w < 2; w++) {
            StringBuilder line = new StringBuilder();
            for (int k = 0; k < 5; k++) {
                line.append(k == 0 ? "" : ",").append(30 + digits.charAt(5 * w + k) - '0').append("(").append(9 * (k + 1)).append(")");
            }
            con[w] = line.toString();
        }
        return Kit.ran("LDA|A", "LDX|X", "NUM", "HLT", "A|CON|" + con[0], "X|CON|" + con[1], "END|0");
    }

    private static void numbers() {
        Kit.told("NUM: a number of ten digits, modulo 2 to the power 30 A's magnitude");
        String[] digits = {"0000000000", "1073741823", "1073741824", "1073741825", "9999999999", "2147483648"};
        for (String d : digits) {
            Kit.due(d, num(d).register(0), Long.parseLong(d) % (FULL + 1L));
            Kit.due(d + ", no overflow", num(d).register(9), 0);
        }
        Kit.told("the last digits of A's and X's ten bytes");
        SixBitBoard b = Kit.ran("LDA|A", "LDX|X", "NUM", "HLT", "A|CON|-0(0:1),9(2:2),10(3:3),19(4:4),20(5:5)",
            "X|CON|-29(0:1),30(2:2),59(3:3),60(4:4),63(5:5)", "END|0");
        Kit.due("bytes 0 9 10 19 20 29 30 59 60 63", b.register(0), -909090903L);
        Kit.due("X stays", b.register(7), -Kit.bytes(29, 30, 59, 60, 63));
    }

    private static void characters() {
        Kit.told("CHAR: A's magnitude as ten digits: bytes 30 + digit in A and X (signs stay)");
        SixBitBoard b = Kit.ran("LDA|A", "ENNX|5", "CHAR", "HLT", "A|CON|1073741823", "END|0");
        Kit.dueAX("the greatest", b, Kit.bytes(31, 30, 37, 33, 37), -Kit.bytes(34, 31, 38, 32, 33));
        b = Kit.ran("ENNA|0", "CHAR", "HLT", "END|0");
        Kit.dueAX("-0", b, -Kit.bytes(30, 30, 30, 30, 30), Kit.bytes(30, 30, 30, 30, 30));
    }

    private static void halt() {
        Kit.told("HLT (10; the counter goes on)");
        SixBitBoard b = Kit.ran("ORIG|3999", "HLT", "END|3999");
        Kit.due("state", b.state(), 1);
        Kit.due("counter", b.register(11), 4000);
        Kit.due("u", b.time(), 10);
    }

    private static void shiftsBelow() {
        Kit.told("shifts by M (below 0: fault 2)");
        for (String op : new String[] {"SLA", "SRA", "SLAX", "SRAX", "SLC", "SRC"}) {
            Kit.due(op + " -1", Kit.ran(op + "|-1", "HLT", "END|0").state(), 3);
            Kit.due(op + " -0", Kit.ran(op + "|-0", "HLT", "END|0").state(), 1);
            Kit.due(op + " 3 - 4", Kit.ran("ENN1|4", op + "|3,1", "HLT", "END|0").state(), 3);
            Kit.due(op + " 3 - 3", Kit.ran("ENN1|3", op + "|3,1", "HLT", "END|0").state(), 1);
        }
    }

    private static SixBitBoard shifted(String line) {
        return Kit.ran("LDA|W", "LDX|X", "ENT1|4095", line, "HLT", W, "X|CON|6(0:1),7(2:2),8(3:3),9(4:4),10(5:5)", "END|0");
    }

    private static void shiftsFar() {
        Kit.told("0s come in, all of them by 5, 10 and more");
        long x = Kit.bytes(6, 7, 8, 9, 10);
        Kit.dueAX("SLA 4", shifted("SLA|4"), -Kit.bytes(5, 0, 0, 0, 0), x);
        Kit.dueAX("SRA 4", shifted("SRA|4"), -Kit.bytes(0, 0, 0, 0, 1), x);
        for (String m : new String[] {"5", "6", "10", "11", "4095", "4095,1"}) {
            Kit.dueAX("SLA " + m, shifted("SLA|" + m), LEAST, x);
            Kit.dueAX("SRA " + m, shifted("SRA|" + m), LEAST, x);
        }
        Kit.dueAX("SLAX 9", shifted("SLAX|9"), -Kit.bytes(10, 0, 0, 0, 0), 0);
        Kit.dueAX("SRAX 9", shifted("SRAX|9"), LEAST, 1);
        for (String m : new String[] {"10", "11", "4095", "4095,1"}) {
            Kit.dueAX("SLAX " + m, shifted("SLAX|" + m), LEAST, 0);
            Kit.dueAX("SRAX " + m, shifted("SRAX|" + m), LEAST, 0);
        }
        Kit.told("4 SLC, 5 SRC (round)");
        for (String m : new String[] {"0", "10", "4090", "4095,1"}) {
            Kit.dueAX("SLC " + m, shifted("SLC|" + m), -Kit.bytes(1, 2, 3, 4, 5), x);
            Kit.dueAX("SRC " + m, shifted("SRC|" + m), -Kit.bytes(1, 2, 3, 4, 5), x);
        }
        Kit.dueAX("SLC 11", shifted("SLC|11"), -Kit.bytes(2, 3, 4, 5, 6), Kit.bytes(7, 8, 9, 10, 1));
        Kit.dueAX("SRC 11", shifted("SRC|11"), -Kit.bytes(10, 1, 2, 3, 4), Kit.bytes(5, 6, 7, 8, 9));
        Kit.dueAX("SLC 9", shifted("SLC|9"), -Kit.bytes(10, 1, 2, 3, 4), Kit.bytes(5, 6, 7, 8, 9));
        Kit.dueAX("SRC 9", shifted("SRC|9"), -Kit.bytes(2, 3, 4, 5, 6), Kit.bytes(7, 8, 9, 10, 1));
    }

    private static void moveNothing() {
        Kit.told("with F 0 no address is looked at");
        SixBitBoard b = Kit.ran("ENN1|4095", "MOVE|-4095(0)", "HLT", "END|0");
        Kit.due("both out of memory", b.state(), 1);
        Kit.due("u", b.time(), 1 + 1 + 10);
        Kit.due("I1", b.register(1), -4095);
        b = Kit.ran("ENT1|100", "MOVE|W(0)", "HLT", W, "END|0");
        Kit.due("nothing is moved", b.word(100), 0);
    }

    private static void moveOn() {
        Kit.told("F words from M on to where I1 says, one by one");
        SixBitBoard b = Kit.ran("ENT1|101", "MOVE|100(3)", "HLT", "ORIG|100", "CON|7", "CON|8", "CON|9", "CON|10", "CON|11", "END|0");
        Kit.due("the first comes to the second", b.word(101), 7);
        Kit.due("and to the third", b.word(102), 7);
        Kit.due("and to the fourth", b.word(103), 7);
        Kit.due("the fifth stays", b.word(104), 11);
        b = Kit.ran("ENT1|200", "MOVE|100(1)", "HLT", "ORIG|100", "CON|7", "CON|8", "END|0");
        Kit.due("one word", b.word(200), 7);
        Kit.due("no more", b.word(201), 0);
        b = Kit.ran("ENT1|200", "MOVE|3937(63)", "HLT", "ORIG|3937", "CON|1", "ORIG|3999", "CON|2", "END|0");
        Kit.due("63 words: the first", b.word(200), 1);
        Kit.due("63 words: the last", b.word(262), 2);
        b = Kit.ran("ENT1|3937", "MOVE|0(63)", "HLT", "ORIG|62", "CON|5", "CON|6", "END|0");
        Kit.due("up to the end of memory", b.word(3999), 5);
        Kit.due("I1", b.register(1), 4000);
    }

    private static void moveZero() {
        Kit.told("I1 grows by F, a 0 keeping its sign");
        SixBitBoard b = Kit.ran("ORIG|-100", "ENN1|5", "MOVE|0(5)", "HLT", "END|-100");
        Kit.due("-5 + 5", b.register(1), LEAST);
        b = Kit.ran("ENN1|0", "MOVE|0(0)", "HLT", "END|0");
        Kit.due("-0 + 0", b.register(1), LEAST);
        b = Kit.ran("ENT1|0", "MOVE|0(0)", "HLT", "END|0");
        Kit.due("+0 + 0", b.register(1), 0);
        b = Kit.ran("ENN1|0", "MOVE|3(1)", "HLT", "END|0");
        Kit.due("-0 + 1", b.register(1), 1);
    }

    private static void moveCost() {
        Kit.told("1 + 2 F");
        for (int f = 0; f <= 63; f += 9) {
            SixBitBoard b = new SixBitBoard();
            Kit.assemble(b, "MOVE|0(" + f + ")", "END|0");
            b.run(1);
            Kit.due("F " + f, b.time(), 1 + 2 * f);
        }
    }

    private static void loadSigns() {
        Kit.told("the field, moved to the right, with its sign if it has it (else +)");
        SixBitBoard b = Kit.ran("LDA|W(0:1)", "LDX|W(1:1)", "HLT", W, "END|0");
        Kit.dueAX("with and without", b, -1, 1);
        Kit.told("LDAN, LDiN, LDXN: the other sign");
        b = Kit.ran("LDAN|W(0:1)", "LDXN|W(1:1)", "LD2N|W(0:0)", "LD3N|W(0:2)", "LD4N|Z", "HLT", W, "Z|CON|0", "END|0");
        Kit.dueAX("with and without", b, 1, -1);
        Kit.due("of -0", b.register(2), 0);
        Kit.due("two bytes", b.register(3), 66);
        Kit.due("of +0", b.register(4), LEAST);
    }

    private static void storeSigns() {
        Kit.told("the sign only if it has it");
        SixBitBoard b = Kit.ran("STA|W(1:5)", "STX|V(0:0)", "ENN3|7", "ST3|U(5:5)", "STZ|T(0:0)", "STZ|S(2:4)", "HLT", W, "V|CON|-9", "U|CON|70",
            "T|CON|-9", "S|CON|-1(0:1),2(2:2),3(3:3),4(4:4),5(5:5)", "END|0");
        Kit.due("without", b.word(7), LEAST);
        Kit.due("alone", b.word(8), 9);
        Kit.due("of the register not", b.word(9), 71);
        Kit.due("STZ: +", b.word(10), 9);
        Kit.due("STZ of a field", b.word(11), -Kit.bytes(1, 0, 0, 0, 5));
    }

    private static void busyEnds() {
        Kit.told("JBUS F: jumps if unit F is busy; JRED F: jumps if it is not busy");
        for (int early = 0; early <= 1; early++) {
            SixBitBoard b = new SixBitBoard();
            // OUT at 0, busy till 400; the last MOVE ends at 400 or 399
            Kit.assemble(b, "OUT|1000(8)", "ENT1|2000", "MOVE|1000(63)", "MOVE|1000(63)", "MOVE|1000(63)", "MOVE|1000(8)", early == 0 ? "NOP" : "NOP|0(1)",
                early == 0 ? "JBUS|500(8)" : "JRED|500(8)", "END|0");
            b.run(6);
            Kit.due("time", b.time(), 400);
            b.run(1);
            b.run(1);
            Kit.due("free at 401", b.register(11), early == 0 ? 8 : 500);
        }
        SixBitBoard b = new SixBitBoard();
        Kit.assemble(b, "OUT|1000(8)", "ENT1|2000", "MOVE|1000(63)", "MOVE|1000(63)", "MOVE|1000(63)", "MOVE|1000(8)", "JBUS|500(8)", "END|0");
        b.run(7);
        Kit.due("free at 400", b.register(11), 7);
        Kit.assemble(b, "OUT|1000(8)", "ENT1|2000", "MOVE|1000(63)", "MOVE|1000(63)", "MOVE|1000(63)", "MOVE|1000(7)", "NOP", "JBUS|500(8)", "END|0");
        b.run(7);
        Kit.due("time", b.time(), 399);
        b.run(1);
        Kit.due("busy at 399", b.register(11), 500);
    }

    private static void jumpAlways() {
        Kit.told("39 (1): F 0 JMP, 1 JSJ (J stays)");
        String on = "LDA|BIG";
        SixBitBoard b = Kit.ran(on, "INCA|1", "JSJ|5", "BIG|CON|1073741823", "HLT", "HLT", "END|0");
        Kit.due("JSJ with overflow on", b.register(11), 6);
        Kit.due("overflow stays on", b.register(9), 1);
        Kit.due("J stays", b.register(8), 0);
        b = Kit.ran(on, "INCA|1", "JMP|5", "BIG|CON|1073741823", "HLT", "HLT", "END|0");
        Kit.due("JMP with overflow on", b.register(11), 6);
        Kit.due("overflow stays on behind JMP", b.register(9), 1);
    }

    private static void overflowJumps() {
        Kit.told("2 JOV (if on; off then), 3 JNOV (if off; off then)");
        String[] ops = {"JOV", "JNOV"};
        for (String op : ops) {
            for (int on = 0; on <= 1; on++) {
                SixBitBoard b = Kit.ran("LDA|BIG", "INCA|" + on, op + "|5", "HLT", "BIG|CON|1073741823", "HLT", "END|0");
                boolean jumps = op.equals("JOV") == (on == 1);
                Kit.due(op + " " + on, b.register(11), jumps ? 6 : 4);
                Kit.due(op + " " + on + ", off then", b.register(9), 0);
                Kit.due(op + " " + on + ", J", b.register(8), jumps ? 3 : 0);
            }
        }
    }

    private static void jumpsSetJ() {
        Kit.told("A jump sets J to the address behind its instruction (but JSJ)");
        SixBitBoard b = Kit.ran("HLT", "ORIG|3999", "JMP|0", "END|3999");
        Kit.due("behind 3999", b.register(8), 4000);
        b = Kit.ran("ORIG|-1", "JMP|5", "ORIG|5", "HLT", "END|-1");
        Kit.due("behind -1: +0", b.register(8), 0);
        b = Kit.ran("ORIG|-3999", "JMP|5", "ORIG|5", "HLT", "END|-3999");
        Kit.due("behind -3999", b.register(8), -3998);
        b = Kit.ran("JMP|1", "JAN|5", "JE|3", "JSJ|4", "HLT", "END|0");
        Kit.due("only jumps that are done, not JSJ", b.register(8), 3);
        for (String op : new String[] {"JRED|3(0)", "JNOV|3", "JLE|3", "JAZ|3", "J6NN|3", "JXNP|3"}) {
            Kit.due(op, Kit.ran("NOP", op, "HLT", "HLT", "END|0").register(8), 2);
        }
    }

    private static void zeroTests() {
        Kit.told("F 0 N (below 0), 1 Z, 2 P, 3 NN, 4 NZ, 5 NP (by value: -0 is 0)");
        String[] tests = {"N", "Z", "P", "NN", "NZ", "NP"};
        String holds = "010101";
        for (char r : "A123456X".toCharArray()) {
            for (int k = 0; k < 6; k++) {
                SixBitBoard b = Kit.ran("ENN" + r + "|0", "J" + r + tests[k] + "|4", "HLT", "HLT", "HLT", "END|0");
                Kit.due("-0, J" + r + tests[k], b.register(11), holds.charAt(k) == '1' ? 5 : 3);
            }
        }
    }

    private static void increase() {
        Kit.told("INC by M (A, X: as ADD; Ii: beyond two bytes fault 4; a result 0 keeps the sign), 1 DEC");
        String[][] runs = {{"ENT#|4094", "INC#|1", "4095"}, {"ENN#|4094", "DEC#|1", "-4095"}, {"ENN#|4095", "INC#|1", "-4094"}, {"ENT#|4095", "DEC#|4095", "0"},
            {"ENT#|4095", "INC#|-4095", "0"}, {"ENT#|4095", "INC#|0", "4095"}};
        for (int i = 1; i <= 6; i++) {
            for (String[] r : runs) {
                SixBitBoard b = Kit.ran(r[0].replace("#", "" + i), r[1].replace("#", "" + i), "HLT", "END|0");
                Kit.due(r[0] + " " + r[1] + " of I" + i, b.register(i), Long.parseLong(r[2]));
                Kit.due("it halts", b.state(), 1);
            }
            for (String op : new String[] {"INC" + i + "|1", "DEC" + i + "|-1", "INC" + i + "|4095"}) {
                SixBitBoard b = Kit.ran("ENT" + i + "|4095", op, "HLT", "END|0");
                Kit.due("4095 " + op, b.state(), 5);
                Kit.due("I" + i + " stays", b.register(i), 4095);
            }
            Kit.due("-4095 - 1", Kit.ran("ENN" + i + "|4095", "DEC" + i + "|1", "HLT", "END|0").state(), 5);
            Kit.due("-1 + 1", Kit.ran("ENN" + i + "|1", "INC" + i + "|1", "HLT", "END|0").register(i), LEAST);
            Kit.due("1 - 1", Kit.ran("ENT" + i + "|1", "DEC" + i + "|1", "HLT", "END|0").register(i), 0);
        }
        SixBitBoard b = Kit.ran("LDX|W", "ENT1|4095", "INCX|4095,1", "HLT", "W|CON|1073741823", "END|0");
        Kit.due("INCX by 8190", b.register(7), 8189);
        Kit.due("overflow", b.register(9), 1);
        b = Kit.ran("LDA|W", "DECA|1", "HLT", "W|CON|-1073741823", "END|0");
        Kit.due("DECA to -0", b.register(0), LEAST);
        Kit.due("overflow", b.register(9), 1);
        b = Kit.ran("ENNX|1", "INCX|1", "HLT", "END|0");
        Kit.due("X keeps -", b.register(7), LEAST);
    }

    private static void enterZero() {
        Kit.told("ENT (M; when M is 0 the instruction's sign), 3 ENN (the other sign, likewise)");
        for (int k = 0; k <= 7; k++) {
            char r = "A123456X".charAt(k);
            Kit.due("ENT 0", Kit.ran("ENT" + r + "|0", "HLT", "END|0").register(k), 0);
            Kit.due("ENT -0", Kit.ran("ENT" + r + "|-0", "HLT", "END|0").register(k), LEAST);
            Kit.due("ENN 0", Kit.ran("ENN" + r + "|0", "HLT", "END|0").register(k), LEAST);
            Kit.due("ENN -0", Kit.ran("ENN" + r + "|-0", "HLT", "END|0").register(k), 0);
            Kit.due("ENT 5 - 5", Kit.ran("ENN2|5", "ENT" + r + "|5,2", "HLT", "END|0").register(k), 0);
            Kit.due("ENT -5 + 5", Kit.ran("ENT2|5", "ENT" + r + "|-5,2", "HLT", "END|0").register(k), LEAST);
            Kit.due("ENN -5 + 5", Kit.ran("ENT2|5", "ENN" + r + "|-5,2", "HLT", "END|0").register(k), 0);
        }
    }

    private static void enterFar() {
        Kit.told("of Ii beyond two bytes fault 4");
        for (int i = 1; i <= 6; i++) {
            for (String op : new String[] {"ENT", "ENN"}) {
                Kit.due(op + i + " 4095", Kit.ran("ENT1|1", op + i + "|4094,1", "HLT", "END|0").state(), 1);
                Kit.due(op + i + " 4096", Kit.ran("ENT1|1", op + i + "|4095,1", "HLT", "END|0").state(), 5);
                Kit.due(op + i + " -4096", Kit.ran("ENN1|1", op + i + "|-4095,1", "HLT", "END|0").state(), 5);
            }
        }
        SixBitBoard b = Kit.ran("ENT1|4095", "ENTA|4095,1", "ENNX|4095,1", "HLT", "END|0");
        Kit.dueAX("A and X go further", b, 8190, -8190);
    }

    private static void compareFields() {
        Kit.told("CMPA, CMPi, CMPX: the same field of the register and of the word at M, as numbers");
        String[][] runs = {{"ENNA|5", "CMPA|V(0:0)", "0"}, {"ENNA|5", "CMPA|V(1:5)", "0"}, {"ENNA|5", "CMPA|V", "-1"}, {"ENTA|5", "CMPA|V(4:4)", "0"},
            {"ENTA|69", "CMPA|V(4:4)", "1"}, {"ENTX|6", "CMPX|V(5:5)", "1"}, {"ENTX|4", "CMPX|V(5:5)", "-1"}, {"ENN1|5", "CMP1|V(0:4)", "0"}, {"ENN6|69", "CMP6|V(0:4)", "-1"}};
        for (String[] r : runs) {
            SixBitBoard b = Kit.ran(r[0], r[1], "HLT", "V|CON|5", "END|0");
            Kit.due(r[0] + " " + r[1], b.register(10), Long.parseLong(r[2]));
        }
    }

    private static void wholeNumber() {
        Kit.told("M is a whole number; where it is an address it must be one");
        SixBitBoard b = Kit.ran("ENT1|4095", "ENT2|-4095", "ENTA|4095,1", "ENTX|-4095,2", "HLT", "END|0");
        Kit.dueAX("beyond two bytes both ways", b, 8190, -8190);
        Kit.due("3999 by an index", Kit.ran("ENN1|96", "LDA|4095,1", "HLT", "END|0").state(), 1);
        Kit.due("4000 by an index", Kit.ran("ENN1|95", "LDA|4095,1", "HLT", "END|0").state(), 3);
        Kit.due("0 by an index", Kit.ran("ENT1|4095", "LDA|-4095,1", "HLT", "END|0").state(), 1);
        Kit.due("-1 by an index", Kit.ran("ENT1|4094", "LDA|-4095,1", "HLT", "END|0").state(), 3);
        Kit.due("8190", Kit.ran("ENT1|4095", "JMP|4095,1", "HLT", "END|0").state(), 8);
    }

    private static void indexWords() {
        Kit.told("Registers Ii and J count as words whose bytes 1 to 3 are 0");
        SixBitBoard b = Kit.ran("ENN3|4095", "ST3|W(0:5)", "JMP|*+1", "STJ|V(1:5)", "ST3|U(1:3)", "CMP3|Z(1:3)", "HLT", W, "V|CON|-1(0:1)", "U|CON|1(1:1),9(4:4)", "Z|CON|63(4:5)", "END|0");
        Kit.due("I3", b.word(7), -4095);
        Kit.due("J", b.word(8), -3);
        Kit.due("three bytes of I3", b.word(9), Kit.bytes(0, 63, 63, 9, 0));
        Kit.due("bytes 1 to 3 compare as 0", b.register(10), 0);
    }
}
