/** The sentences of the term ASSEMBLING that name an edge, one test each. */
public final class EdgeAssembleTest {
    private static final long LEAST = Kit.LEAST;
    private static final long TWO = 1L << 18;

    public static void main(String[] args) {
        eightyBytes();
        lettersOfLines();
        columns();
        firstColumns();
        remarks();
        symbolNames();
        localNames();
        localDirections();
        locationAtFirst();
        numbers();
        longNames();
        signs();
        quotients();
        shiftedQuotients();
        colons();
        resultZero();
        noWord();
        fieldsOfValues();
        putInOrder();
        addressParts();
        indexBounds();
        fBounds();
        addressBounds();
        namesAndTheirF();
        refusedNames();
        equ();
        withoutValue();
        orig();
        alf();
        endBounds();
        comingOrder();
        comingAheadOfStart();
        locOfLines();
        notDefinedInIt();
        whatWasToCome();
        wideValues();
        unreadLines();
        operationsMissing();
        definedAlready();
        notThere();
        outOfMemory();
        noEnd();
        orderOfErrors();
        undefinedLocals();
        Kit.close();
    }

    private static SixBitBoard assembled(String text) {
        SixBitBoard b = new SixBitBoard();
        int words = Kit.feed(b, text).assemble();
        Kit.due("[" + text + "] has an error", words < 0 ? b.error() : 0, 0);
        return b;
    }

    private static void wrong(int kind, int line, String text) {
        SixBitBoard b = new SixBitBoard();
        Kit.due("[" + text + "]", Kit.feed(b, text).assemble(), -1 - line);
        Kit.due("[" + text + "], error", b.error(), kind);
    }

    /** The first word of a text whose last line but END is this CON; L is 50, A 100, Z -0. */
    private static long con(String address) {
        return assembled(Kit.source("A|EQU|100", "Z|EQU|-0", "ORIG|50", "CON|" + address, "END|0")).word(50);
    }

    private static void conWrong(int kind, String address) {
        wrong(kind, 4, Kit.source("A|EQU|100", "Z|EQU|-0", "ORIG|50", "CON|" + address, "END|0"));
    }

    private static void eightyBytes() {
        Kit.told("LINES (newline 10; at most 80 bytes count");
        String start = "           CON  ";
        Kit.due("column 80 counts", assembled(start + "1+".repeat(31) + "37\n           END  0\n").word(0), 68);
        Kit.due("column 81 does not", assembled(start + "1+".repeat(31) + "373\n           END  0\n").word(0), 68);
        Kit.due("nor what is behind it", assembled(start + "1+".repeat(31) + "37+(" + "X".repeat(200) + "\n           END  0\n").word(0), 68);
        wrong(1, 1, start + "1+".repeat(32) + "5\n           END  0\n");
        Kit.due("13 is no newline", assembled("           CON  1\r\n           END  0\r\n").word(0), 1);
        Kit.due("the last line needs none", assembled("           CON  1\n           END  0").word(0), 1);
    }

    private static void lettersOfLines() {
        Kit.told("read as letters as on cards");
        SixBitBoard b = assembled("x1         con  7\u007fwhat\n           end  0\n");
        Kit.due("small letters", Kit.symbol(b, "X1"), 0);
        Kit.due("a byte that is no letter is a space", b.word(0), 7);
        b = assembled("?          CON\u00e9 8\n           END  0\n");
        Kit.due("? is a space, too", b.word(0), 8);
    }

    private static void columns() {
        Kit.told("columns 1 to 10 LOC, 12 to 15 OP, from 17 on ADDRESS, which ends ahead of the first space (other columns, and what is behind, are remarks)");
        SixBitBoard b = assembled("ABCDEFGHIJ(CON (7 +1\n          )END )0 )(\n");
        Kit.due("columns 11 and 16 and what is behind", b.word(0), 7);
        Kit.due("LOC", Kit.symbol(b, "ABCDEFGHIJ"), 0);
        b = assembled("           ENTA(5\n           LDAN 6\n           END  0\n");
        Kit.due("OP has four columns", b.word(0), 5 * TWO + 2 * 64 + 48);
        wrong(1, 1, "           CON   7\n           END  0\n");
        b = assembled("           NOP   7\n           END  0\n");
        Kit.due("an ADDRESS that begins with a space is none", b.word(0), 5 * 64);
    }

    private static void firstColumns() {
        Kit.told("LOC and OP begin in their first columns and have no space within (else error 1)");
        String[] bad = {" A         CON  1", "A B        CON  1", "         A CON  1", "A        A CON  1", "            CON 1", "           C N  1", "           CO N 1",
            "              N 1", " A", "         A", "            N", "A           CON 1"};
        for (String line : bad) {
            wrong(1, 1, line + "\n           END  0\n");
        }
    }

    private static void remarks() {
        Kit.told("* in column 1: a remark; so is a line with neither LOC nor OP");
        SixBitBoard b = new SixBitBoard();
        Kit.due("no words", Kit.feed(b, "*\n* A B     C N\n*A         CON  (\n\n          X\n               X\n                CON  1\n     \n          (    )ADDRESS\n           END  0\n").assemble(), 0);
        Kit.due("ten lines", b.listing(), 10);
        wrong(1, 1, " *\n           END  0\n");
    }

    private static void symbolNames() {
        Kit.told("SYMBOLS: 1 to 10 letters A .. Z and digits, one letter at least (but nH, nB, nF)");
        String[] right = {"A", "Z", "A0", "0A", "9Z9", "1234567890".substring(1) + "A", "ABCDEFGHIJ", "H", "B", "F", "HH", "0HH", "00H", "10B", "99F", "1A", "2G", "1HB"};
        for (String name : right) {
            SixBitBoard b = assembled(Kit.source("ORIG|7", name + "|CON|5", "CON|" + name, "END|0"));
            Kit.due(name, Kit.symbol(b, name), 7);
            Kit.due(name + " as an atom", b.word(8), 7);
        }
        String[] none = {"0", "9", "1234567890", "0B", "9B", "0F", "9F", "A.", ".A", "A-B", "A*", "A'", "~", "A~", "#", "(A)"};
        for (String name : none) {
            wrong(1, 1, Kit.source(name + "|CON|5", "END|0"));
        }
    }

    private static void localNames() {
        Kit.told("nH in LOC (n a digit) is a LOCAL one");
        for (int n = 0; n <= 9; n++) {
            SixBitBoard b = assembled(Kit.source("JMP|" + n + "F", n + "H|CON|8", n + "H|CON|" + n + "B", "CON|" + n + "B", "JMP|" + n + "F", "END|0"));
            Kit.due(n + "F", b.word(0), TWO + 39);
            Kit.due(n + "B in the line of the second", b.word(2), 1);
            Kit.due(n + "B behind it", b.word(3), 2);
            Kit.due(n + "F that nothing defines", b.word(4), 5 * TWO + 39);
            int m = n;
            Kit.throwsNone(n + "H is no symbol", () -> Kit.symbol(b, m + "H"));
            Kit.throwsNone(n + "F is no symbol", () -> Kit.symbol(b, m + "F"));
            Kit.due("no names", b.names(), 0);
            // no nH of an earlier text is there
            Kit.due(n + "B of another text", Kit.assemble(b, "CON|" + n + "B", "END|0"), -2);
            Kit.due("error 4", b.error(), 4);
        }
    }

    private static void localDirections() {
        Kit.told("nB is the latest nH of an earlier line, nF the next one of a later line");
        SixBitBoard b = assembled(Kit.source("1H|EQU|10", "1H|EQU|20", "JMP|1B", "JMP|1F", "1H|JMP|1F", "1H|JMP|1B", "2H|EQU|5", "JMP|1B", "END|0"));
        Kit.due("the latest", b.word(0), 20 * TWO + 39);
        Kit.due("the next", b.word(1), 2 * TWO + 39);
        Kit.due("nF in the line of an nH is a later one", b.word(2), 3 * TWO + 39);
        Kit.due("nB in the line of an nH is an earlier one", b.word(3), 2 * TWO + 39);
        Kit.due("2H is another", b.word(4), 3 * TWO + 39);
    }

    private static void locationAtFirst() {
        Kit.told("The location counter L is 0 at first");
        SixBitBoard b = assembled(Kit.source("ORIG|100", "CON|1", "END|0"));
        Kit.due("again", Kit.assemble(b, "A|CON|*", "END|0"), 1);
        Kit.due("0", Kit.symbol(b, "A"), 0);
        Kit.due("*", b.word(0), 0);
    }

    private static void numbers() {
        Kit.told("ATOM: a number (1 to 10 digits, below 2 to the power 30, else 1)");
        Kit.due("one digit", con("7"), 7);
        Kit.due("ten digits", con("0000000007"), 7);
        Kit.due("the greatest", con("1073741823"), 1073741823);
        Kit.due("0", con("0000000000"), 0);
        String[] bad = {"00000000007", "1073741824", "9999999999", "10000000000", "4294967297", "99999999999999999999999999"};
        for (String n : bad) {
            conWrong(1, n);
            conWrong(1, "1+" + n);
            conWrong(1, "1(" + n + ")");
        }
    }

    private static void longNames() {
        Kit.told("so is a name of more than 10 letters");
        conWrong(1, "ABCDEFGHIJK");
        conWrong(1, "12345678901A");
        wrong(1, 1, Kit.source("LDA|ABCDEFGHIJK", "END|0"));
        conWrong(4, "ABCDEFGHIJ");
        Kit.told("nH is none: 1");
        conWrong(1, "0H");
        conWrong(1, "9H+1");
        wrong(1, 2, Kit.source("1H|CON|1", "LDA|1H", "END|0"));
    }

    private static void signs() {
        Kit.told("an atom, perhaps with + or - ahead (which turns its sign, of 0, too)");
        String[] text = {"-0", "+0", "-Z", "+Z", "-A", "+A", "-*", "+*", "-1073741823", "0"};
        long[] want = {LEAST, 0, 0, LEAST, -100, 100, -50, 50, -1073741823, 0};
        for (int k = 0; k < text.length; k++) {
            Kit.due(text[k], con(text[k]), want[k]);
        }
        for (String bad : new String[] {"--1", "+-1", "-+1", "++1", "-", "+", "1+-1", "1--1", "1*+1", "1/-1", "1:-1"}) {
            conWrong(1, bad);
        }
        SixBitBoard b = assembled(Kit.source("CON|-*", "LDA|-0", "END|0"));
        Kit.due("- of L 0", b.word(0), LEAST);
        Kit.due("of an instruction's address", b.word(1), -(5 * 64 + 8));
    }

    private static void quotients() {
        Kit.told("+ - * / (quotient towards 0; two of them are one sign)");
        String[] text = {"7/2", "-7/2", "7/8", "-7/8", "1073741823/1", "1-8/2", "-1-8/2", "0/7", "Z/7", "2*3/4*5", "10-3-2", "1+2*3", "***", "*+*", "*/*"};
        long[] want = {3, -3, 0, 0, 1073741823, -3, -4, 0, 0, 5, 5, 9, 2500, 100, 1};
        for (int k = 0; k < text.length; k++) {
            Kit.due(text[k], con(text[k]), want[k]);
        }
        conWrong(1, "8///2");
        conWrong(1, "8/");
    }

    private static void shiftedQuotients() {
        Kit.told("// (the quotient of a times 2 to the power 30 by b, towards 0)");
        long[][] pairs = {{1, 2}, {2, 3}, {-2, 3}, {1, 1073741823}, {1073741822, 1073741823}, {0, 5}, {-1, 2}, {5, 7}};
        for (long[] p : pairs) {
            Kit.due(p[0] + "//" + p[1], con(p[0] + "//" + p[1]), p[0] * (1L << 30) / p[1]);
        }
        Kit.due("of -0", con("Z//7"), 0);
        conWrong(5, "1//2//2");
        conWrong(5, "1//1");
        conWrong(5, "-1//1");
        conWrong(5, "5//4");
        conWrong(5, "1//0");
        conWrong(5, "0//0");
    }

    private static void colons() {
        Kit.told(": (8 a + b)");
        Kit.due("1:5", con("1:5"), 13);
        Kit.due("0:0", con("0:0"), 0);
        Kit.due("-1:5", con("-1:5"), -3);
        Kit.due("1:2:3", con("1:2:3"), 83);
        Kit.due("134217727:7", con("134217727:7"), 1073741823);
        conWrong(5, "134217727:8");
        conWrong(5, "134217728:0");
        Kit.due("-134217728:1", con("-134217728:1"), -1073741823);
        conWrong(5, "-134217728:0");
    }

    private static void resultZero() {
        Kit.told("a result 0 being +0");
        for (String text : new String[] {"Z+Z", "Z-0", "-0-0", "5-5", "-5+5", "Z*5", "-5*0", "-1/2", "Z/5", "Z//5", "Z:Z", "-1:8"}) {
            Kit.due(text, con(text), 0);
        }
        Kit.due("an atom is no result", con("Z"), LEAST);
    }

    private static void noWord() {
        Kit.told("a result, or a divisor 0, that is no word: error 5");
        Kit.due("the greatest", con("1073741822+1"), 1073741823);
        Kit.due("the least", con("-1073741822-1"), -1073741823);
        Kit.due("32767 * 32769", con("32767*32769"), 1073741823);
        for (String text : new String[] {"1073741823+1", "-1073741823-1", "32768*32768", "-32768*32768", "1073741823*1073741823", "1/0", "1/Z", "0/0", "A/0", "1//Z",
            "1073741823+1-1", "1+1/0", "1073741823+1)", "1/0+"}) {
            conWrong(5, text);
        }
    }

    private static void fieldsOfValues() {
        Kit.told("each one is put into its field ((0:5) if not told; one that is none: 5)");
        for (int f = -1; f <= 64; f++) {
            String text = f < 0 ? "0-1" : "" + f;
            boolean isField = f >= 0 && f / 8 <= f % 8 && f % 8 <= 5;
            if (isField) {
                int first = Math.max(f / 8, 1);
                long mask = 0;
                for (int k = 1; k <= 5; k++) {
                    mask = mask * 64 + (k >= first && k <= f % 8 ? 63 : 0);
                }
                Kit.due("all but field " + f, con("1073741823,0(" + text + ")"), 1073741823 - mask);
            } else {
                conWrong(5, "1(" + text + ")");
                conWrong(5, "1,2(" + text + "),)");
            }
        }
        Kit.due("not told", con("1073741823,-5"), -5);
        Kit.due("-0 as a field", con("5,-9(-0)"), -5);
    }

    private static void putInOrder() {
        Kit.told("of what there is so far, +0 at first, as STX would");
        Kit.due("+ at first", con("-5(5:5)"), 5);
        Kit.due("the sign with the field", con("-5(0:1)"), -Kit.bytes(5, 0, 0, 0, 0));
        Kit.due("bytes from the right", con("1073741823(2:2)"), Kit.bytes(0, 63, 0, 0, 0));
        Kit.due("later over earlier", con("1(1:3),2(3:5),3(5:5)"), Kit.bytes(0, 0, 0, 0, 3));
        Kit.due("the sign alone", con("7,-0(0:0)"), -7);
        Kit.due("back again", con("-7,0(0:0)"), 7);
        Kit.due("many", con("1(9),2(18),3(27),4(36),5(45)"), Kit.bytes(1, 2, 3, 4, 5));
    }

    private static void addressParts() {
        Kit.told("A part (nothing: 0; an expression; a symbol not defined, or nF, alone: a FUTURE one; =W-VALUE= a LITERAL)");
        SixBitBoard b = assembled(Kit.source("LDA|", "LDA|,1", "LDA|(2)", "LDA|,1(2)", "LDA|1+1", "LDA|X,1(2)", "LDA|1F,1", "LDA|=1,2(1:1)=,1(2)", "LDA|=-0=", "END|0"));
        long lda = 8;
        long[] want = {5 * 64 + lda, 4096 + 5 * 64 + lda, 2 * 64 + lda, 4096 + 2 * 64 + lda, 2 * TWO + 5 * 64 + lda, 9 * TWO + 4096 + 2 * 64 + lda, 10 * TWO + 4096 + 5 * 64 + lda,
            11 * TWO + 4096 + 2 * 64 + lda, 12 * TWO + 5 * 64 + lda};
        for (int k = 0; k < want.length; k++) {
            Kit.due("word " + k, b.word(k), want[k]);
        }
        Kit.due("X's word", b.word(9), 0);
        Kit.due("1F's word", b.word(10), 0);
        Kit.due("the literal", b.word(11), Kit.bytes(2, 0, 0, 0, 1));
        Kit.due("-0 as a literal", b.word(12), LEAST);
        for (String bad : new String[] {"X+1", "-X", "+X", "1F+1", "-1F", "1+X", "1-1F", "=X=", "=1F=", "1,X", "1,1F", "1(X)", "1(1F)", "X*"}) {
            wrong(4, 1, Kit.source("LDA|" + bad, "END|0"));
        }
        for (String bad : new String[] {"=", "==", "=1", "=1=1", "=1==", "1=", "1,", "1(", "1()", "1(2", "1(2)3", "1(2),1", "1,1,1", "1)", "(2),1", ")"}) {
            wrong(1, 1, Kit.source("LDA|" + bad, "END|0"));
        }
    }

    private static void indexBounds() {
        Kit.told("then perhaps ,EXPRESSION (index, 0 .. 6)");
        for (int k = 0; k <= 6; k++) {
            Kit.due("index " + k, assembled(Kit.source("NOP|0," + k, "END|0")).word(0), 4096L * k + 5 * 64);
        }
        Kit.due("an expression", assembled(Kit.source("NOP|0,2*3", "END|0")).word(0), 4096L * 6 + 5 * 64);
        Kit.due("-0", assembled(Kit.source("NOP|0,-0", "END|0")).word(0), 5 * 64);
        for (String bad : new String[] {"7", "-1", "63", "64", "2*4", "0-1", "1073741823"}) {
            wrong(5, 1, Kit.source("NOP|0," + bad, "END|0"));
            wrong(5, 1, Kit.source("NOP|X," + bad, "END|0"));
            wrong(5, 1, Kit.source("NOP|=1=," + bad, "END|0"));
        }
    }

    private static void fBounds() {
        Kit.told("then perhaps (EXPRESSION) (F, 0 .. 63; else as the name has it)");
        for (int f = 0; f <= 63; f++) {
            Kit.due("F " + f, assembled(Kit.source("LDA|0(" + f + ")", "END|0")).word(0), 64L * f + 8);
        }
        Kit.due("7:7", assembled(Kit.source("LDA|0(7:7)", "END|0")).word(0), 64L * 63 + 8);
        Kit.due("-0", assembled(Kit.source("LDA|0(-0)", "END|0")).word(0), 8);
        for (String bad : new String[] {"64", "-1", "8:0", "7:8", "0-1", "1073741823"}) {
            wrong(5, 1, Kit.source("LDA|0(" + bad + ")", "END|0"));
        }
    }

    private static void addressBounds() {
        Kit.told("A is within two bytes");
        Kit.due("4095", assembled(Kit.source("NOP|4095", "END|0")).word(0), 4095 * TWO + 5 * 64);
        Kit.due("-4095", assembled(Kit.source("NOP|-4095", "END|0")).word(0), -(4095 * TWO + 5 * 64));
        Kit.due("4096-1", assembled(Kit.source("NOP|4096-1", "END|0")).word(0), 4095 * TWO + 5 * 64);
        for (String bad : new String[] {"4096", "-4096", "4095+1", "64*64", "1073741823", "4096,7", "4096)"}) {
            wrong(5, 1, Kit.source("NOP|" + bad, "END|0"));
        }
        Kit.due("a literal is a word", assembled(Kit.source("NOP|=1073741823=", "END|0")).word(1), 1073741823);
    }

    private static String[] operations() {
        StringBuilder all = new StringBuilder("NOP 500 ADD 501 SUB 502 MUL 503 DIV 504 NUM 5 CHAR 105 HLT 205 INT 305 SLA 6 SRA 106 SLAX 206 SRAX 306 SLC 406 SRC 506 MOVE 107 ");
        all.append("STJ 232 STZ 533 JBUS 34 IOC 35 IN 36 OUT 37 JRED 38 JMP 39 JSJ 139 JOV 239 JNOV 339 JL 439 JE 539 JG 639 JGE 739 JNE 839 JLE 939 ");
        String[] tests = {"N", "Z", "P", "NN", "NZ", "NP"};
        String[] ways = {"INC", "DEC", "ENT", "ENN"};
        for (int k = 0; k <= 7; k++) {
            char r = "A123456X".charAt(k);
            all.append("LD" + r + " " + (508 + k) + " LD" + r + "N " + (516 + k) + " ST" + r + " " + (524 + k) + " CMP" + r + " " + (556 + k) + " ");
            for (int t = 0; t < 6; t++) {
                all.append("J" + r + tests[t] + " " + (100 * t + 40 + k) + " ");
            }
            for (int t = 0; t < 4; t++) {
                all.append(ways[t] + r + " " + (100 * t + 48 + k) + " ");
            }
        }
        return all.toString().split(" ");
    }

    private static void namesAndTheirF() {
        Kit.told("NAMES: each with its C and F");
        String[] all = operations();
        Kit.due("so many names", all.length / 2, 145);
        for (int k = 0; k < all.length; k += 2) {
            int code = Integer.parseInt(all[k + 1]);
            SixBitBoard b = assembled(Kit.source(all[k] + "|", "END|0"));
            Kit.due(all[k], b.word(0), code / 100 * 64 + code % 100);
            b.list();
            Kit.due(all[k] + " in the list", Kit.line(b, 18, 0), String.format("0000 +0000 00 %02d %02d %s", code / 100, code % 100, all[k]));
        }
    }

    private static void refusedNames() {
        Kit.told("FADD FSUB FMUL FDIV FCMP FLOT FIX are refused by name");
        for (String name : new String[] {"FADD", "FSUB", "FMUL", "FDIV", "FCMP", "FLOT", "FIX"}) {
            wrong(8, 1, Kit.source(name + "|", "END|0"));
            wrong(8, 1, Kit.source("A|" + name + "|)(", "END|0"));
        }
        for (String name : new String[] {"FAD", "FIXX", "F", "FLO", "FLT", "FNOP"}) {
            wrong(2, 1, Kit.source(name + "|", "END|0"));
        }
    }

    private static void equ() {
        Kit.told("EQU: LOC, if there is one, is the W-VALUE");
        SixBitBoard b = assembled(Kit.source("A|EQU|-0", "B|EQU|1(1:1),-2(0:0)", "EQU|7", "C|EQU|*", "1H|EQU|9", "CON|1B", "END|0"));
        Kit.due("-0", Kit.symbol(b, "A"), LEAST);
        Kit.due("a W-VALUE", Kit.symbol(b, "B"), -Kit.bytes(1, 0, 0, 0, 0));
        Kit.due("no word is put", Kit.symbol(b, "C"), 0);
        Kit.due("a local one", b.word(0), 9);
        wrong(4, 1, Kit.source("EQU|X", "END|0"));
    }

    private static void withoutValue() {
        Kit.told("without one, error 1, here and below");
        for (String op : new String[] {"EQU", "ORIG", "CON", "END"}) {
            wrong(1, 1, Kit.source(op + "|", "END|0"));
            wrong(1, 1, Kit.source("A|" + op + "|", "END|0"));
            wrong(1, 1, Kit.source(op + "| 5", "END|0"));
            wrong(1, 1, "           " + op + "\n           END  0\n");
        }
    }

    private static void orig() {
        Kit.told("ORIG: L is the W-VALUE (-3999 .. 4000)");
        for (String right : new String[] {"-3999", "3999", "0", "-0"}) {
            SixBitBoard b = assembled(Kit.source("ORIG|" + right, "A|CON|7", "END|0"));
            Kit.due(right, Kit.symbol(b, "A"), Long.parseLong(right));
        }
        SixBitBoard b = assembled(Kit.source("ORIG|4000", "A|EQU|*", "B|END|0"));
        Kit.due("4000", Kit.symbol(b, "A"), 4000);
        Kit.due("4000 at END", Kit.symbol(b, "B"), 4000);
        for (String bad : new String[] {"4001", "-4000", "4095", "1073741823", "-1073741823", "4000+1", "4001)", "-4000,"}) {
            wrong(bad.endsWith(",") ? 1 : 5, 1, Kit.source("ORIG|" + bad, "END|0"));
        }
    }

    private static void alf() {
        Kit.told("ALF: the letters of columns 17 to 21 (spaces behind the line's end; nothing else is looked at)");
        String start = "           ALF ";
        String[] lines = {start + " ABCDEF", start + "X    E", start + "", "           ALF", start + " (=,)+REMARK", start + " a?\u0001z*"};
        long[] want = {Kit.letters("ABCDE"), Kit.letters("    E"), 0, 0, Kit.letters("(=,)+"), Kit.letters("A  Z*")};
        for (int k = 0; k < lines.length; k++) {
            Kit.due(lines[k], assembled(lines[k] + "\n           END  0\n").word(0), want[k]);
        }
        Kit.due("its LOC", Kit.symbol(assembled("           NOP\nA          ALF  X\n           END  0\n"), "A"), 1);
    }

    private static void endBounds() {
        Kit.told("END: the W-VALUE (-3999 .. 3999) is where it starts");
        for (int at : new int[] {-3999, -1, 0, 1, 3999}) {
            SixBitBoard b = assembled(Kit.source("END|" + at));
            Kit.due("start " + at, b.register(11), at);
            Kit.due("it runs", b.state(), 0);
        }
        Kit.due("a W-VALUE", assembled(Kit.source("END|5(4:4),7(5:5)")).register(11), 5 * 64 + 7);
        for (String bad : new String[] {"4000", "-4000", "4095", "1073741823", "3999+1", "4000)"}) {
            wrong(5, 1, Kit.source("END|" + bad));
        }
        Kit.told("the text ends");
        SixBitBoard b = assembled(Kit.source("CON|1", "END|0") + "A B\n" + Kit.source("CON|2", "END|7"));
        Kit.due("nothing behind it", b.word(1), 0);
        Kit.due("nor its start", b.register(11), 0);
    }

    private static void comingOrder() {
        Kit.told("the future symbols that nothing defines, and the literals, come, in the order of their first use (a literal each time), each a word at L (a symbol +0)");
        SixBitBoard b = assembled(Kit.source("LDA|Y", "LDA|=5=", "LDA|X", "LDA|Y", "LDA|=5=", "LDA|D", "LDA|X", "D|EQU|77", "ORIG|100", "END|0"));
        int[] at = {100, 101, 102, 100, 103, 77, 102};
        for (int k = 0; k < at.length; k++) {
            Kit.due("use " + k, b.word(k), at[k] * TWO + 5 * 64 + 8);
        }
        long[] words = {0, 5, 0, 5, 0};
        for (int k = 0; k < words.length; k++) {
            Kit.due("word " + (100 + k), b.word(100 + k), words[k]);
        }
        Kit.due("Y", Kit.symbol(b, "Y"), 100);
        Kit.due("X", Kit.symbol(b, "X"), 102);
        SixBitBoard c = new SixBitBoard();
        Kit.due("they count", Kit.assemble(c, "LDA|Y", "LDA|=5=", "END|0"), 4);
    }

    private static void comingAheadOfStart() {
        Kit.told("ahead of that, but behind LOC, .. come, .. and L grows");
        SixBitBoard b = assembled(Kit.source("LDA|Y", "LDA|=5=", "E|END|Y"));
        Kit.due("Y is there for it", b.register(11), 2);
        Kit.due("LOC is L ahead of them", Kit.symbol(b, "E"), 2);
        Kit.due("* is behind them", assembled(Kit.source("LDA|Y", "LDA|=5=", "END|*")).register(11), 4);
        b = assembled(Kit.source("LDA|E", "LDA|=5=", "E|END|0"));
        Kit.due("END's LOC is defined: no word comes for it", b.word(0), 2 * TWO + 5 * 64 + 8);
        Kit.due("the literal is at L", b.word(2), 5);
    }

    private static void locOfLines() {
        Kit.told("LOC is defined as L (EQU: the value; ORIG, END: L ahead of it)");
        SixBitBoard b = assembled(Kit.source("A|NOP|", "B|CON|1", "C|ALF|X", "D|EQU|77", "E|ORIG|50", "F|NOP|", "G|END|0"));
        String names = "ABCDEFG";
        long[] want = {0, 1, 2, 77, 3, 50, 51};
        for (int k = 0; k < 7; k++) {
            Kit.due("" + names.charAt(k), Kit.symbol(b, "" + names.charAt(k)), want[k]);
        }
    }

    private static void notDefinedInIt() {
        Kit.told("when the line has been worked, but is not defined in it");
        for (String line : new String[] {"A|EQU|A", "A|CON|A", "A|ORIG|A", "A|END|A", "A|NOP|A+1", "A|NOP|0,A", "A|NOP|0(A)", "A|NOP|=A="}) {
            wrong(4, 1, Kit.source(line, "END|0"));
        }
        SixBitBoard b = assembled(Kit.source("NOP|", "A|JMP|A", "CON|A", "END|0"));
        Kit.due("a future one in it", b.word(1), TWO + 39);
        Kit.due("an atom behind it", b.word(2), 1);
    }

    private static void whatWasToCome() {
        Kit.told("What was to come goes, behind these words, in the order of uses, into the sign and bytes 1, 2 of the word that is at its place then");
        SixBitBoard b = assembled(Kit.source("JMP|X", "ORIG|0", "JMP|Y", "ORIG|0", "CON|-5", "X|EQU|70", "Y|EQU|80", "END|0"));
        Kit.due("the later use stays", b.word(0), 80 * TWO + 5);
        b = assembled(Kit.source("JMP|Y", "ORIG|0", "JMP|X", "X|EQU|70", "Y|EQU|-80", "END|0"));
        Kit.due("X is later", b.word(0), 70 * TWO + 39);
        b = assembled(Kit.source("LDA|M,3(7)", "LDA|Z,6(63)", "M|EQU|-9", "Z|EQU|-0", "END|0"));
        Kit.due("the sign", b.word(0), -(9 * TWO + 3 * 4096 + 7 * 64 + 8));
        Kit.due("-0", b.word(1), -(6 * 4096 + 63 * 64 + 8));
        b = assembled(Kit.source("ORIG|5", "LDA|=1=", "ORIG|5", "END|0"));
        Kit.due("a literal over its own use", b.word(5), 5 * TWO + 1);
        b = assembled(Kit.source("ORIG|-3999", "LDA|X", "X|EQU|5", "END|0"));
        Kit.due("at the first word of memory", b.word(-3999), 5 * TWO + 5 * 64 + 8);
    }

    private static void wideValues() {
        Kit.told("a value beyond two bytes: 5, at END, ahead of 6");
        Kit.due("4095", assembled(Kit.source("NOP|X", "X|EQU|4095", "END|0")).word(0), 4095 * TWO + 5 * 64);
        Kit.due("-4095", assembled(Kit.source("NOP|X", "X|EQU|-4095", "END|0")).word(0), -(4095 * TWO + 5 * 64));
        wrong(5, 3, Kit.source("NOP|X", "X|EQU|4096", "END|0"));
        wrong(5, 3, Kit.source("NOP|X", "X|EQU|-4096", "END|0"));
        wrong(5, 3, Kit.source("NOP|1F", "1H|EQU|4096", "END|0"));
        wrong(5, 4, Kit.source("NOP|X", "X|EQU|4096", "ORIG|4000", "END|0"));
        wrong(5, 5, Kit.source("NOP|X", "NOP|=1=", "X|EQU|4096", "ORIG|4000", "END|0"));
        wrong(6, 5, Kit.source("NOP|X", "NOP|=1=", "X|EQU|4095", "ORIG|4000", "END|0"));
        Kit.due("4096 that is not to come", assembled(Kit.source("X|EQU|4096", "CON|X", "END|0")).word(0), 4096);
    }

    private static void unreadLines() {
        Kit.told("1 a line that can't be read so, or a LOC that is none");
        for (String bad : new String[] {"NOP|#", "NOP|A#", "NOP|1.", "NOP|$", "NOP|@1", "NOP|1;", "NOP|'", "NOP|<", "NOP|~", "NOP|[", "CON|1#1", "CON|1,(2)", "CON|1(2:)"}) {
            wrong(1, 2, Kit.source("A|EQU|1", bad, "END|0"));
        }
        wrong(1, 1, Kit.source("1|NOP|", "END|0"));
        wrong(1, 1, Kit.source("1B|NOP|", "END|0"));
        wrong(1, 1, Kit.source("+|NOP|", "END|0"));
    }

    private static void operationsMissing() {
        Kit.told("2 OP is none (or not there, with a LOC)");
        for (String op : new String[] {"X", "NOPE", "NO", "LDAA", "LD7", "LD0", "ADDA", "JAX", "J7N", "J0N", "JX", "JA", "INC", "INC7", "ENTJ", "CMP", "STJ1", "LDJ", "ST", "MOV", "EQ", "EQUX",
            "ORG", "CO", "CONS", "ALPH", "EN", "ENDX", "1", "*", "IN1", "OUTX", "HALT", "+"}) {
            wrong(2, 1, Kit.source(op + "|", "END|0"));
        }
        wrong(2, 1, "A\n           END  0\n");
        wrong(2, 1, "1H\n           END  0\n");
        wrong(2, 1, "A               5\n           END  0\n");
    }

    private static void definedAlready() {
        Kit.told("3 LOC is defined already");
        for (String op : new String[] {"NOP|", "CON|1", "ALF|", "EQU|1", "ORIG|1", "END|0"}) {
            wrong(3, 2, Kit.source("A|EQU|1", "A|" + op, "END|0"));
        }
        wrong(3, 3, Kit.source("JMP|A", "A|NOP|", "A|NOP|", "END|0"));
        Kit.due("a future one is not", assembled(Kit.source("JMP|A", "A|NOP|", "END|0")).word(0), TWO + 39);
        Kit.due("a local one may be again", assembled(Kit.source("1H|NOP|", "1H|NOP|", "CON|1B", "END|0")).word(2), 1);
    }

    private static void notThere() {
        Kit.told("4 a symbol isn't there (nB too), or nF, where it must be");
        for (String op : new String[] {"EQU|", "CON|", "ORIG|", "END|"}) {
            for (String atom : new String[] {"X", "1B", "1F", "X+1", "1F+1", "5(X)", "0,X"}) {
                wrong(4, 1, Kit.source(op + atom, "END|0"));
            }
        }
        wrong(4, 1, Kit.source("JMP|1B", "1H|NOP|", "END|0"));
        wrong(4, 1, Kit.source("1H|JMP|1B", "END|0"));
        wrong(4, 1, Kit.source("CON|X", "X|EQU|1", "END|0"));
        wrong(4, 2, Kit.source("JMP|X", "CON|X", "X|EQU|1", "END|0"));
    }

    private static void outOfMemory() {
        Kit.told("6 L is above 3999 when a word is due");
        for (String op : new String[] {"NOP|", "CON|1", "ALF|X"}) {
            wrong(6, 2, Kit.source("ORIG|4000", op, "END|0"));
            wrong(6, 3, Kit.source("ORIG|3999", op, op, "END|0"));
            SixBitBoard b = new SixBitBoard();
            Kit.due("at 3999", Kit.assemble(b, "ORIG|3999", op, "END|0"), 1);
        }
        for (String use : new String[] {"=1=", "X", "1F"}) {
            wrong(6, 3, Kit.source("NOP|" + use, "ORIG|4000", "END|0"));
            SixBitBoard b = new SixBitBoard();
            Kit.due("comes at 3999", Kit.assemble(b, "NOP|" + use, "ORIG|3999", "END|0"), 2);
        }
        Kit.due("EQU, ORIG and END need none", assembled(Kit.source("ORIG|4000", "A|EQU|1", "ORIG|4000", "END|0")).state(), 0);
        wrong(5, 2, Kit.source("ORIG|4000", "NOP|4096", "END|0"));
        wrong(3, 3, Kit.source("A|EQU|1", "ORIG|4000", "A|NOP|", "END|0"));
    }

    private static void noEnd() {
        Kit.told("7 there is no END (at the line behind the last; of an empty text line 1)");
        wrong(7, 1, "");
        wrong(7, 2, "\n");
        wrong(7, 2, "*");
        wrong(7, 3, "*\n\n");
        wrong(7, 2, Kit.source("NOP|"));
        wrong(7, 2, "           NOP");
        wrong(7, 4, Kit.source("NOP|", "NOP|", "NOP|"));
        wrong(7, 2, "*          END  0\n");
    }

    private static void orderOfErrors() {
        Kit.told("Of one line: 1 for LOC and OP's columns, 2 or 8, 3, then ADDRESS from the left, 6");
        String ahead = Kit.source("A|EQU|1", "ORIG|4000");
        wrong(1, 3, ahead + "A B        FOO  (\n");
        wrong(1, 3, ahead + "A           FOO (\n");
        wrong(1, 3, ahead + "1F         FADD (\n");
        wrong(2, 3, ahead + Kit.source("A|FOO|("));
        wrong(8, 3, ahead + Kit.source("A|FADD|("));
        wrong(3, 3, ahead + Kit.source("A|NOP|("));
        wrong(1, 3, ahead + Kit.source("B|NOP|(,7"));
        wrong(4, 3, ahead + Kit.source("B|NOP|1+X,7("));
        wrong(5, 3, ahead + Kit.source("B|NOP|4096,X("));
        wrong(5, 3, ahead + Kit.source("B|NOP|1,7(X"));
        wrong(4, 3, ahead + Kit.source("B|NOP|1,X(64)"));
        wrong(5, 3, ahead + Kit.source("B|NOP|1,6(64)#"));
        wrong(1, 3, ahead + Kit.source("B|NOP|1,6(63)#"));
        wrong(5, 3, ahead + Kit.source("CON|1/0+X"));
        wrong(4, 3, ahead + Kit.source("CON|X/0"));
        wrong(1, 3, ahead + Kit.source("CON|1+#+X"));
        wrong(5, 3, ahead + Kit.source("CON|1(6)(X)"));
        wrong(4, 3, ahead + Kit.source("CON|1(X)(6)"));
        wrong(6, 3, ahead + Kit.source("B|NOP|1,6(63)"));
        wrong(6, 3, ahead + Kit.source("CON|1"));
    }

    private static void undefinedLocals() {
        Kit.told("An nF at the end that nothing defines is a future symbol by itself");
        for (int n = 0; n <= 9; n++) {
            SixBitBoard b = assembled(Kit.source("JMP|" + n + "F", n + "H|JMP|X", "JMP|" + n + "F", "JMP|" + n + "F", "END|0"));
            Kit.due("defined", b.word(0), TWO + 39);
            Kit.due("X's word comes first", b.word(1), 4 * TWO + 39);
            Kit.due(n + "F's word", b.word(2), 5 * TWO + 39);
            Kit.due("the same for its second use", b.word(3), 5 * TWO + 39);
            Kit.due("+0", b.word(5), 0);
        }
        SixBitBoard b = new SixBitBoard();
        Kit.due("each n its own", Kit.assemble(b, "JMP|0F", "JMP|9F", "JMP|5F", "JMP|9F", "END|0"), 7);
        int[] at = {4, 5, 6, 5};
        for (int k = 0; k < 4; k++) {
            Kit.due("use " + k, b.word(k), at[k] * TWO + 39);
        }
    }
}
