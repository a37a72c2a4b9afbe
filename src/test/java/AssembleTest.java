/** Terms: assembling; promises 4 (assemble), 6 (error), 23 (symbol). */
public final class AssembleTest {
    private static final long LEAST = Integer.MIN_VALUE;

    public static void main(String[] args) {
        lines();
        operations();
        expressions();
        wValues();
        instructions();
        locals();
        future();
        places();
        ends();
        errorKinds();
        errorOrder();
        behindError();
        symbols();
        Kit.close();
    }

    private static SixBitBoard raw(String text) {
        SixBitBoard b = new SixBitBoard();
        Kit.feed(b, text).assemble();
        return b;
    }

    private static void wrong(int kind, int line, String text) {
        SixBitBoard b = new SixBitBoard();
        int answer = Kit.feed(b, text).assemble();
        Kit.due("[" + text + "]", answer, -1 - line);
        Kit.due("[" + text + "], error", b.error(), kind);
        Kit.due("[" + text + "], state", b.state(), 9);
        Kit.due("[" + text + "], deck", b.deck(), -1);
    }

    /** The value of a W-value. */
    private static long con(String address) {
        SixBitBoard b = new SixBitBoard();
        int words = Kit.assemble(b, "ORIG|50", "A|EQU|100", "Z|EQU|-0", "M|EQU|-7", "3H|EQU|33", "CON|" + address, "END|0");
        if (words != 1) {
            throw new IllegalStateException(address + ": " + words + ", " + b.error());
        }
        return b.word(50);
    }

    /** The error of a W-value. */
    private static void conWrong(int kind, String address) {
        wrong(kind, 2, Kit.source("A|EQU|100", "CON|" + address, "END|0"));
    }

    private static void lines() {
        SixBitBoard b = raw("* A REMARK\n\n                ADDRESS ALONE IS A REMARK\n"
            + "first      ent1 5    lower case is read as upper\n"
            + "X\u0001         CON\t -9\n" + "           END\r 0\n   what is behind END\n");
        Kit.due("two words", b.error(), 0);
        Kit.due("ENT1 5", b.word(0), 5L * (1 << 18) + 2 * 64 + 49);
        Kit.due("CON", b.word(1), -9);
        Kit.due("FIRST", Kit.symbol(b, "FIRST"), 0);
        b = raw(Kit.source("CON|1", "END|0") + "           CON  2\n");
        Kit.due("END ends the text", b.word(1), 0);
        b = raw("           CON  1\n           END  0");
        Kit.due("no newline at the end", b.error(), 0);
        b = raw("           CON  " + "1+".repeat(31) + "11" + "99\n           END  0\n");
        Kit.due("80 columns count", b.word(0), 31 + 11);
        b = raw("ABCDEFGHIJ#CON #7\nKLMNOPQRST CON  ABCDEFGHIJ\n           END  0\n");
        Kit.due("columns 11 and 16 are remarks", b.word(0), 7);
        Kit.due("ten letters", Kit.symbol(b, "ABCDEFGHIJ"), 0);
        Kit.due("ten letters", Kit.symbol(b, "KLMNOPQRST"), 1);
        b = raw("           ALF  A\n           ALF  \n           ALF\n           ALF  *12?zREMARK\n           END  0\n");
        Kit.due("ALF A", b.word(0), 1 << 24);
        Kit.due("ALF of spaces", b.word(1), 0);
        Kit.due("ALF behind the line's end", b.word(2), 0);
        Kit.due("ALF", b.word(3), (((46L * 64 + 31) * 64 + 32) * 64) * 64 + 29);
    }

    private static void operations() {
        String[] names = {"NOP", "ADD", "SUB", "MUL", "DIV", "NUM", "CHAR", "HLT", "INT", "SLA", "SRA", "SLAX", "SRAX", "SLC", "SRC", "MOVE",
            "LDA", "LD1", "LD6", "LDX", "LDAN", "LD3N", "LDXN", "STA", "ST4", "STX", "STJ", "STZ", "JBUS", "IOC", "IN", "OUT", "JRED",
            "JMP", "JSJ", "JOV", "JNOV", "JL", "JE", "JG", "JGE", "JNE", "JLE", "JAN", "JAZ", "JAP", "JANN", "JANZ", "JANP", "J1N", "J6NP",
            "JXN", "JXZ", "JXP", "JXNN", "JXNZ", "JXNP", "INCA", "DECA", "ENTA", "ENNA", "INC1", "DEC2", "ENT3", "ENN6", "INCX", "DECX", "ENTX",
            "ENNX", "CMPA", "CMP1", "CMP6", "CMPX"};
        int[] code = {500, 501, 502, 503, 504, 5, 105, 205, 305, 6, 106, 206, 306, 406, 506, 107, 508, 509, 514, 515, 516, 519, 523, 524, 528, 531,
            232, 533, 34, 35, 36, 37, 38, 39, 139, 239, 339, 439, 539, 639, 739, 839, 939, 40, 140, 240, 340, 440, 540, 41, 546,
            47, 147, 247, 347, 447, 547, 48, 148, 248, 348, 49, 150, 251, 354, 55, 155, 255, 355, 556, 557, 562, 563};
        for (int k = 0; k < names.length; k++) {
            SixBitBoard b = new SixBitBoard();
            Kit.due(names[k], Kit.assemble(b, names[k] + "|9", "END|0"), 1);
            Kit.due(names[k] + " 9", b.word(0), 9L * (1 << 18) + code[k] / 100 * 64 + code[k] % 100);
        }
        SixBitBoard nops = new SixBitBoard();
        Kit.due("NOPs", Kit.assemble(nops, "NOP|", "NOP|(0)", "NOP|,2", "NOP|(63)", "HLT|", "END|0"), 5);
        Kit.due("NOP's own F", nops.word(0), 5 * 64);
        Kit.due("NOP with F 0", nops.word(1), 0);
        Kit.due("NOP with an index", nops.word(2), 2 * 4096 + 5 * 64);
        Kit.due("NOP with F 63", nops.word(3), 63 * 64);
        Kit.due("NOPs do nothing, whatever F is", nops.run(9), 5);
        Kit.due("one u each", nops.time(), 14);
        Kit.due("halted", nops.state(), 1);
        String[] refused = {"FADD", "FSUB", "FMUL", "FDIV", "FCMP", "FLOT", "FIX"};
        for (String name : refused) {
            wrong(8, 1, Kit.source(name + "|9", "END|0"));
        }
        String[] none = {"FOO", "LD7", "LD0", "J7N", "JAX", "ENT7", "CMPJ", "STJN", "LDJ", "A", "LDAX", "EQ", "ENDS", "JJ", "STY", "FL"};
        for (String name : none) {
            wrong(2, 1, Kit.source(name + "|9", "END|0"));
        }
    }

    private static void expressions() {
        String[] text = {"0", "5", "0000000005", "1073741823", "A", "*", "-5", "+5", "-A", "1+2", "1-2", "2*3", "7/2", "-7/2", "7/A", "1+2*3", "10-3-2",
            "1//2", "1:3", "A:1:2", "***", "*-*", "-*", "A+A-A", "3B", "-3B+1", "-0", "+0", "Z", "-Z", "+Z", "Z+Z", "0-0", "5-5", "M", "-M", "M*M", "M/2", "M//8",
            "0/5", "-0/5", "1073741823+0", "1//3", "A/3*3"};
        long[] want = {0, 5, 5, 1073741823, 100, 50, -5, 5, -100, 3, -1, 6, 3, -3, 0, 9, 5,
            1 << 29, 11, (100 * 8 + 1) * 8 + 2, 2500, 0, -50, 100, 33, -32, LEAST, 0, LEAST, 0, LEAST, 0, 0, 0, -7, 7, 49, -3, -939524096,
            0, 0, 1073741823, 357913941, 99};
        for (int k = 0; k < text.length; k++) {
            Kit.due("CON " + text[k], con(text[k]), want[k]);
        }
        String[] first = {"", "+", "-", "1+", "1++2", "1*-2", "--1", "1/", "1///2", "1//", "12345678901", "00000000001", "1073741824", "9999999999",
            "ABCDEFGHIJK", "1A2B3C4D5E6", "(5)", "1)", "1(5", "1(5:5", "1()", "1(5)2", "1(5)(5)", ",1", "1,", "1,,2", "#", "A~", "A.", "1=2", "=1=", "2H", "5H+1",
            "1(5:", "1+#", "A$", "**", "A'", "1:-1"};
        for (String address : first) {
            conWrong(1, address);
        }
        String[] fourth = {"B", "B+1", "1+B", "1B", "1F", "9F+1", "-B", "1(B)", "B)", "A,B", "2+B)"};
        for (String address : fourth) {
            conWrong(4, address);
        }
        String[] fifth = {"1073741823+1", "-1073741823-1", "1/0", "1//0", "1//1", "5//5", "0/0", "32768*32768", "1073741823:0", "134217728:0", "A*A*A*A*A*A",
            "1(6)", "1(-1)", "1(17)", "1(48)", "1(8)", "1(6", "1//1)", "1/0)", "1073741823*1073741823"};
        for (String address : fifth) {
            conWrong(5, address);
        }
    }

    private static void wValues() {
        Kit.due("fields", con("1,-1000(0:2),5(5:5)"), -(1000L * (1 << 18) + 5));
        Kit.due("a later one over an earlier one", con("-1,0(1:5)"), LEAST);
        Kit.due("sign of its own", con("-5(1:5)"), 5);
        Kit.due("as STX: bytes from the right", con("1048577(2:3)"), 1 * 4096);
        Kit.due("the sign alone", con("1,-9(0:0)"), -1);
        Kit.due("the last without a field", con("63(1:1),-2"), -2);
        Kit.due("expressions in both", con("A+1(1:1+A-A)"), (101 - 64) * (1L << 24));
        Kit.due("a field as a number", con("9(9)"), 9 * (1L << 24));
        Kit.due("-0 as a field", con("-1(-0)"), LEAST);
    }

    private static void instructions() {
        String[] text = {"LDA|", "LDA|,3", "LDA|(0:2)", "LDA|,3(0:2)", "LDA|A,3(0:2)", "LDA|-A", "LDA|-0", "LDA|4095", "LDA|-4095,6(63)", "LDA|*+1",
            "LDA|A(1:5)", "NOP|1,2(3)", "LDA|1,-0(-0)", "ENTA|0-1"};
        long lda = 5 * 64 + 8;
        long[] want = {lda, 3 * 4096 + lda, 2 * 64 + 8, 3 * 4096 + 2 * 64 + 8, 100L * (1 << 18) + 3 * 4096 + 2 * 64 + 8, -(100L * (1 << 18) + lda),
            -lda, 4095L * (1 << 18) + lda, -(4095L * (1 << 18) + 6 * 4096 + 63 * 64 + 8), 51L * (1 << 18) + lda, 100L * (1 << 18) + 13 * 64 + 8,
            (1L << 18) + 2 * 4096 + 3 * 64, (1L << 18) + 8, -((1L << 18) + 2 * 64 + 48)};
        for (int k = 0; k < text.length; k++) {
            SixBitBoard b = new SixBitBoard();
            Kit.due(text[k], Kit.assemble(b, "ORIG|50", "A|EQU|100", text[k], "END|0"), 1);
            Kit.due(text[k] + ", word", b.word(50), want[k]);
        }
        String[] first = {"LDA|)", "LDA|1)", "LDA|1,", "LDA|1,2,3", "LDA|1(", "LDA|1(5", "LDA|1(5)1", "LDA|1(5),1", "LDA|=1", "LDA|=", "LDA|==", "LDA|=1=2", "LDA|1=",
            "LDA|X)", "LDA|X=", "LDA|2H", "LDA|2F)", "LDA|ABCDEFGHIJK", "LDA|-", "LDA|+,1", "LDA|X,", "LDA|=1(5=", "LDA|=1,="};
        for (String line : first) {
            wrong(1, 1, Kit.source(line, "END|0"));
        }
        String[] fourth = {"LDA|X+1", "LDA|-X", "LDA|+X", "LDA|2F+1", "LDA|-2F", "LDA|2B", "LDA|1,X", "LDA|1(X)", "LDA|=X=", "LDA|=2F=", "LDA|X,Y", "LDA|X/0", "LDA|X:1)", "LDA|1+X"};
        for (String line : fourth) {
            wrong(4, 1, Kit.source(line, "END|0"));
        }
        String[] fifth = {"LDA|4096", "LDA|-4096", "LDA|1,7", "LDA|1,-1", "LDA|1(64)", "LDA|1(-1)", "LDA|5000)", "LDA|5000,9)", "LDA|1,7)", "LDA|=1//1=", "LDA|X,7", "LDA|=1(6)="};
        for (String line : fifth) {
            wrong(5, 1, Kit.source(line, "END|0"));
        }
    }

    private static void locals() {
        SixBitBoard b = new SixBitBoard();
        Kit.due("locals", Kit.assemble(b, "2H|JMP|2F", "2H|JMP|2B", "JMP|2B", "2H|JMP|2F", "9H|EQU|77", "CON|9B", "2H|CON|2B", "END|0"), 6);
        long jmp = 39;
        Kit.due("2F is a later line's", b.word(0), (1L << 18) + jmp);
        Kit.due("2B is an earlier line's", b.word(1), jmp);
        Kit.due("the latest", b.word(2), (1L << 18) + jmp);
        Kit.due("2F again", b.word(3), 5L * (1 << 18) + jmp);
        Kit.due("9B by EQU", b.word(4), 77);
        Kit.due("2B in the line of a 2H", b.word(5), 3);
        Kit.throwsNone("2H is no symbol", () -> Kit.symbol(b, "2H"));
        SixBitBoard c = new SixBitBoard();
        Kit.due("22H, H2, HH are symbols", Kit.assemble(c, "22H|CON|1", "H2|CON|22H", "HH|CON|H2", "2A|CON|HH", "END|2A"), 4);
        Kit.due("2A", Kit.symbol(c, "2A"), 3);
        Kit.due("start", c.register(11), 3);
        String[] bad = {"2B", "2F", "0F", "12", "1234567890", "A+B", "A.", "A#", "=", "-1"};
        for (String loc : bad) {
            wrong(1, 1, Kit.source(loc + "|CON|1", "END|0"));
        }
    }

    private static void future() {
        SixBitBoard b = new SixBitBoard();
        int words = Kit.assemble(b, "LDA|LATER,1(0:3)", "LDA|NEVER", "LDX|=5=", "LDX|=5=", "LDA|NEVER", "JMP|3F", "JMP|3F", "ST1|MINUS",
            "X|JMP|X", "LATER|CON|9", "MINUS|EQU|-4095", "END|0");
        Kit.due("words", words, 10 + 4);
        Kit.due("LATER", b.word(0), 9L * (1 << 18) + 4096 + 3 * 64 + 8);
        Kit.due("NEVER", b.word(1), 10L * (1 << 18) + 5 * 64 + 8);
        Kit.due("a literal", b.word(2), 11L * (1 << 18) + 5 * 64 + 15);
        Kit.due("a literal each time", b.word(3), 12L * (1 << 18) + 5 * 64 + 15);
        Kit.due("NEVER again", b.word(4), 10L * (1 << 18) + 5 * 64 + 8);
        Kit.due("3F by itself", b.word(5), 13L * (1 << 18) + 39);
        Kit.due("3F again", b.word(6), 13L * (1 << 18) + 39);
        Kit.due("a value below 0", b.word(7), -(4095L * (1 << 18) + 5 * 64 + 25));
        Kit.due("LOC is not defined in its line, but behind it", b.word(8), 8L * (1 << 18) + 39);
        Kit.due("NEVER's word", b.word(10), 0);
        Kit.due("literal", b.word(11), 5);
        Kit.due("literal", b.word(12), 5);
        Kit.due("3F's word", b.word(13), 0);
        Kit.due("NEVER is a symbol then", Kit.symbol(b, "NEVER"), 10);
        Kit.due("MINUS", Kit.symbol(b, "MINUS"), -4095);
        wrong(4, 1, Kit.source("X|CON|X", "END|0"));
        wrong(4, 1, Kit.source("X|EQU|X", "END|0"));
        wrong(4, 2, Kit.source("JMP|X", "X|END|X"));
        b = new SixBitBoard();
        Kit.due("END's LOC defines", Kit.assemble(b, "JMP|X", "JMP|Y", "X|END|0"), 3);
        Kit.due("X is L ahead of what comes", b.word(0), 2L * (1 << 18) + 39);
        Kit.due("Y comes there too", b.word(1), 2L * (1 << 18) + 39);
        Kit.due("END's nH", Kit.assemble(b, "JMP|1F", "JMP|1F", "1H|END|0"), 2);
        Kit.due("1F", b.word(0), 2L * (1 << 18) + 39);
        Kit.due("END's nH and another nF", Kit.assemble(b, "JMP|1F", "JMP|2F", "1H|END|0"), 3);
        Kit.due("1F is END's", b.word(0), 2L * (1 << 18) + 39);
        Kit.due("2F comes there", b.word(1), 2L * (1 << 18) + 39);
        Kit.due("0H, 0F, 0B", Kit.assemble(b, "JMP|0F", "0H|CON|7", "JMP|0B", "JMP|0F", "END|0"), 5);
        Kit.due("0F", b.word(0), 1L * (1 << 18) + 39);
        Kit.due("0B", b.word(2), 1L * (1 << 18) + 39);
        Kit.due("0F by itself", b.word(3), 4L * (1 << 18) + 39);
        Kit.due("words come ahead of the start", Kit.assemble(b, "JMP|FAR", "LDA|=7=", "END|FAR"), 4);
        Kit.due("it starts at FAR", b.register(11), 2);
        Kit.due("* behind them", Kit.assemble(b, "JMP|FAR", "LDA|=7=", "END|*-1"), 4);
        Kit.due("it starts at the literal", b.register(11), 3);
        // a literal over the instruction that uses another one
        Kit.due("put twice", Kit.assemble(b, "ORIG|5", "LDA|=1=", "LDA|=2=", "ORIG|4", "LDA|FUT(3)", "CON|-9", "ORIG|4", "END|5"), 7);
        Kit.due("=1=, then FUT's place", b.word(4), 6L * (1 << 18) + 1);
        Kit.due("=2=, then =1='s place", b.word(5), 4L * (1 << 18) + 2);
        Kit.due("+0, then =2='s place", b.word(6), 5L * (1 << 18));
        Kit.due("below 0", Kit.assemble(b, "ORIG|-2", "LDA|=1=", "LDA|A", "LDA|B", "ORIG|-1", "END|0"), 6);
        Kit.due("a place below 0", b.word(-2), -(1L * (1 << 18) + 5 * 64 + 8));
    }

    private static void places() {
        SixBitBoard b = new SixBitBoard();
        Kit.due("ORIG", Kit.assemble(b, "A|ORIG|10", "B|CON|A", "C|ORIG|*+5", "CON|C", "D|ALF|X", "ORIG|-3999", "CON|1", "ORIG|3999", "E|CON|2", "F|END|B"), 5);
        long[] want = {0, 10, 11, 17, 3999, 4000};
        for (int k = 0; k < 6; k++) {
            Kit.due("place " + k, Kit.symbol(b, "" + (char) ('A' + k)), want[k]);
        }
        Kit.due("CON A", b.word(10), 0);
        Kit.due("CON C", b.word(16), 11);
        Kit.due("lowest", b.word(-3999), 1);
        Kit.due("highest", b.word(3999), 2);
        Kit.due("start", b.register(11), 10);
        Kit.due("state", b.state(), 0);
        Kit.due("ORIG 4000", Kit.assemble(b, "ORIG|4000", "A|EQU|*", "END|3999"), 0);
        Kit.due("memory as at first", b.word(10), 0);
        wrong(5, 1, Kit.source("ORIG|4001", "END|0"));
        wrong(5, 1, Kit.source("ORIG|-4000", "END|0"));
        wrong(5, 1, Kit.source("END|4000"));
        wrong(5, 1, Kit.source("END|-4000"));
        // from the left: the value's bounds, then what is behind it
        wrong(5, 1, Kit.source("ORIG|4001)", "END|0"));
        wrong(1, 1, Kit.source("ORIG|4000)", "END|0"));
        wrong(5, 1, Kit.source("END|4000)"));
        wrong(1, 1, Kit.source("END|3999)"));
        wrong(5, 1, Kit.source("LDA|4096)", "END|0"));
        wrong(1, 1, Kit.source("LDA|4095)", "END|0"));
        wrong(6, 2, Kit.source("ORIG|4000", "NOP|", "END|0"));
        wrong(6, 2, Kit.source("ORIG|4000", "ALF|", "END|0"));
        wrong(6, 2, Kit.source("ORIG|4000", "CON|1", "END|0"));
        wrong(5, 2, Kit.source("ORIG|4000", "CON|1//1", "END|0"));
        wrong(1, 2, Kit.source("ORIG|4000", "NOP|)", "END|0"));
        wrong(3, 2, Kit.source("A|ORIG|4000", "A|NOP|)", "END|0"));
    }

    private static void ends() {
        SixBitBoard b = new SixBitBoard();
        Kit.due("negative start", Kit.assemble(b, "ORIG|-5", "NOP|", "END|-5"), 1);
        Kit.due("counter", b.register(11), -5);
        Kit.due("-0", Kit.assemble(b, "END|-0"), 0);
        Kit.due("counter", b.register(11), 0);
        Kit.due("a W-value", Kit.assemble(b, "END|5(4:4),6"), 0);
        Kit.due("counter", b.register(11), 6);
        wrong(1, 1, Kit.source("END|"));
        wrong(1, 1, Kit.source("ORIG|"));
        wrong(1, 1, Kit.source("EQU|"));
        wrong(1, 1, Kit.source("A|EQU|"));
        wrong(1, 1, Kit.source("CON|"));
        wrong(1, 1, Kit.source("END|0)"));
        wrong(1, 1, Kit.source("END|=0="));
        wrong(4, 1, Kit.source("END|X"));
        wrong(4, 2, Kit.source("JMP|2F", "END|2F"));
        wrong(7, 2, Kit.source("NOP|"));
        wrong(7, 1, "");
        wrong(7, 2, "\n");
        wrong(7, 2, "*\n");
        wrong(7, 4, "\n\n\n");
        wrong(5, 3, Kit.source("JMP|X", "X|EQU|4096", "END|0"));
        wrong(5, 3, Kit.source("JMP|2F", "2H|EQU|-4096", "END|0"));
        wrong(5, 5, Kit.source("JMP|X", "LDA|=1=", "X|EQU|4096", "ORIG|4000", "END|0"));
        wrong(6, 3, Kit.source("LDA|=1=", "ORIG|4000", "END|0"));
        wrong(6, 4, Kit.source("LDA|=1=", "JMP|X", "ORIG|3999", "END|0"));
        wrong(6, 3, Kit.source("JMP|2F", "ORIG|4000", "END|0"));
        wrong(4, 3, Kit.source("LDA|=1=", "ORIG|4000", "END|Y"));
        wrong(1, 4, Kit.source("JMP|X", "X|EQU|4096", "ORIG|4000", "END|)"));
        placesBeyond();
        Kit.due("just in", Kit.assemble(b, "LDA|=1=", "ORIG|3999", "END|0"), 2);
        Kit.due("nothing comes at 4000", Kit.assemble(b, "NOP|", "ORIG|4000", "END|0"), 1);
        Kit.due("EQU alone", Kit.assemble(b, "EQU|5", "END|0"), 0);
    }

    /** What comes at END at 4096 or more is 5, ahead of 6: literals, symbols, an nF. */
    private static void placesBeyond() {
        wrong(6, 98, coming(96, "=1=", "END|0"));
        wrong(5, 99, coming(97, "=1=", "END|0"));
        wrong(6, 98, coming(96, "S#", "END|0"));
        wrong(5, 99, coming(97, "S#", "END|0"));
        wrong(6, 99, coming(97, "S", "END|0"));
        wrong(6, 99, coming(96, "=1=", "E|EQU|4096", "END|0"));
        wrong(6, 98, coming(95, "S#", "NOP|2F", "END|0"));
        wrong(5, 99, coming(96, "S#", "NOP|2F", "END|0"));
        wrong(6, 100, coming(96, "S#", "NOP|S0", "NOP|S95", "END|0"));
        wrong(4, 99, coming(97, "=1=", "END|X"));
        wrong(1, 99, coming(97, "=1=", "END|0)"));
        SixBitBoard b = new SixBitBoard();
        Kit.due("errors", Kit.feed(b, coming(97, "=1=", "END|0", "CON|D")).errors(), 1);
        Kit.dueLines("it ends the text", b, 18, "0099 5            END  0");
    }

    /** So many instructions (# is the number of each), then these lines; the last instruction is at 3999. */
    private static String coming(int count, String address, String... behind) {
        int words = count;
        for (String line : behind) {
            words += line.startsWith("NOP") ? 1 : 0;
        }
        StringBuilder text = new StringBuilder(Kit.source("ORIG|" + (4000 - words)));
        for (int k = 0; k < count; k++) {
            text.append(Kit.source("NOP|" + address.replace("#", "" + k)));
        }
        return text.append(Kit.source(behind)).toString();
    }

    private static void errorKinds() {
        wrong(1, 1, " A         CON  1\n");
        wrong(1, 1, "A B        CON  1\n");
        wrong(1, 1, "            CON 1\n");
        wrong(1, 1, "           C N  1\n");
        wrong(1, 1, "              X 1\n");
        wrong(1, 1, "         A CON  1\n");
        wrong(2, 1, "A\n");
        wrong(2, 1, "A               5\n");
        wrong(3, 2, Kit.source("A|EQU|1", "A|EQU|1", "END|0"));
        wrong(3, 2, Kit.source("A|CON|1", "A|END|0"));
        wrong(3, 3, Kit.source("JMP|A", "A|CON|1", "A|ORIG|0"));
        wrong(4, 1, Kit.source("CON|A"));
        wrong(2, 1, "           con.\n");
    }

    private static void errorOrder() {
        wrong(1, 2, "A          EQU  1\n2B         FOO  )\n");
        wrong(1, 2, "A          EQU  1\nA           FOO )\n");
        wrong(1, 2, "A          EQU  1\n2B         FADD )\n");
        wrong(2, 2, "A          EQU  1\nA          FOO  )\n");
        wrong(8, 2, "A          EQU  1\nA          FIX  )\n");
        wrong(3, 2, "A          EQU  1\nA          CON  )\n");
        wrong(3, 2, "A          EQU  1\nA          END  4000\n");
        wrong(2, 1, "A\nA B\n");
    }

    private static void behindError() {
        SixBitBoard b = Kit.ran("ENTA|5", "OUT|0(3)", "HLT", "END|0");
        Kit.due("wrong", Kit.assemble(b, "CON|5", "A|CON|6", "CON|B", "END|0"), -4);
        Kit.due("state", b.state(), 9);
        Kit.due("run", b.run(5), 0);
        Kit.due("memory as at first", b.word(0), 0);
        Kit.due("registers as at first", b.register(0), 0);
        Kit.due("counter as at first", b.register(11), 0);
        Kit.due("time 0", b.time(), 0);
        Kit.due("tapes stay", b.unit(3), 1);
        Kit.throwsNone("no symbols", () -> Kit.symbol(b, "A"));
        Kit.due("error", b.error(), 4);
        Kit.due("right again", Kit.assemble(b, "A|CON|6", "END|0"), 1);
        Kit.due("no error", b.error(), 0);
        Kit.due("A", Kit.symbol(b, "A"), 0);
        Kit.due("counter", b.register(11), 0);
        SixBitBoard c = Kit.ran("OUT|0(18)", "HLT", "END|0");
        Kit.assemble(c, "OUT|0(18)", "HLT", "END|0");
        c.run(1);
        Kit.due("units are free", c.time(), 1);
        Kit.due("lines stay", c.unit(18), 2);
    }

    private static void symbols() {
        SixBitBoard b = new SixBitBoard();
        Kit.assemble(b, "A|EQU|-0", "B|EQU|-5", "C1|EQU|1073741823", "ABCDEFGHIJ|EQU|7", "1H|EQU|3", "0ZAZ9|EQU|90", "END|0");
        Kit.due("-0", Kit.symbol(b, "A"), LEAST);
        Kit.due("-5", Kit.symbol(b, "B"), -5);
        Kit.due("greatest", Kit.symbol(b, "C1"), 1073741823);
        Kit.due("ten letters", Kit.symbol(b, "ABCDEFGHIJ"), 7);
        Kit.due("digits and letters", Kit.symbol(b, "0ZAZ9"), 90);
        String[] none = {"", "a", "A ", " A", "A\n", "C", "C11", "ABCDEFGHIJK", "ABCDEFGHI", "1H", "1B", "B-", "Z", "12", "\u0000", "\u00e9"};
        for (String name : none) {
            Kit.throwsNone("[" + name + "]", () -> Kit.symbol(b, name));
            Kit.due("used up", b.end(1), false);
        }
        Kit.due("still", Kit.symbol(b, "B"), -5);
        Kit.feed(b, "CARD").cards();
        b.go();
        Kit.throwsNone("nothing is assembled behind go()", () -> Kit.symbol(b, "B"));
    }
}
