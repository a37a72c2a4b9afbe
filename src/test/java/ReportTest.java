/** Promises 10 (deck), 11 (list), 12 (listing), 13 (names), 14 (trace). */
public final class ReportTest {
    public static void main(String[] args) {
        deck();
        list();
        listing();
        names();
        trace();
        traceWatched();
        lost();
        Kit.close();
    }

    private static void deck() {
        SixBitBoard b = new SixBitBoard();
        Kit.assemble(b, "CON|1", "CON|-2", "CON|-0", "CON|-1073741823", "CON|10", "CON|-10", "CON|1073741823", "CON|8", "CON|9",
            "ORIG|20", "CON|-19", "ORIG|3999", "CON|7", "ORIG|-5", "CON|5", "END|4");
        Kit.due("cards", b.deck(), 5);
        Kit.dueLines("deck", b, 17,
            "     70000" + "0000000001" + "000000000K" + "000000000~" + "107374182L" + "0000000010" + "000000001~" + "1073741823",
            "     20007" + "0000000008" + "0000000009",
            "     10020" + "000000001R",
            "     13999" + "0000000007",
            "     00004");
        Kit.assemble(b, "ORIG|-5", "CON|5", "END|-5");
        b.tear();
        Kit.due("nothing from 0 on", b.deck(), 1);
        Kit.dueLines("0 when it starts below 0", b, 17, "     00000");
        b = Kit.ran("ENTA|9", "STA|0", "STA|100", "HLT", "END|0");
        Kit.due("as they are now", b.deck(), 2);
        Kit.due("word 0 now, 100 not", Kit.line(b, 17, 0), "     40000" + "0000000009" + digits(344) + digits(100L * 262144 + 344) + digits(133));
        Kit.assemble(b, "JMP|LATER", "LDA|=5=", "END|0");
        b.tear();
        Kit.due("what came at END", b.deck(), 2);
        Kit.due("four words", Kit.line(b, 17, 0).substring(0, 10), "     40000");
    }

    private static String digits(long n) {
        return String.format("%010d", n);
    }

    private static void list() {
        SixBitBoard b = new SixBitBoard();
        Kit.assemble(b, "ORIG|-1", "NOP|", "LDA|-2000,2(0:3)", "CON|5", "CON|4(4:4),5(5:5)", "INT|", "CON|63(4:4),39(5:5)", "ORIG|100",
            "JXNP|4095", "ENN6|-0", "IN|7(16)", "CON|-1073741823", "SRC|1", "CON|6(4:4),6(5:5)", "END|0");
        Kit.due("list", b.list(), 11);
        Kit.dueLines("list", b, 18,
            "0000 -2000 02 03 08 LDA",
            "0001 +0000 00 00 05 NUM",
            "0002 +0000 00 04 05 ?",
            "0003 +0000 00 03 05 INT",
            "0004 +0000 00 63 39 ?",
            "0100 +4095 00 05 47 JXNP",
            "0101 -0000 00 03 54 ENN6",
            "0102 +0007 00 16 36 IN",
            "0103 -4095 63 63 63 CMPX",
            "0104 +0001 00 05 06 SRC",
            "0105 +0000 00 06 06 ?");
        Kit.assemble(b, "ORIG|3999", "LDX|1", "END|0");
        b.tear();
        b.list();
        Kit.dueLines("the last word", b, 18, "3999 +0001 00 05 15 LDX");
        b = new SixBitBoard();
        Kit.assemble(b, "STZ|1", "CON|7", "HLT|", "END|0");
        b.run(1);
        b.list();
        Kit.dueLines("as they are now", b, 18, "0000 +0001 00 05 33 STZ", "0001 +0000 00 00 00 NOP", "0002 +0000 00 02 05 HLT");
    }

    private static void listing() {
        SixBitBoard b = new SixBitBoard();
        Kit.feed(b, "* a remark\n\nX          EQU  5 five\n           ORIG -1\n           LDA  =3=\nY          CON  -7\n           JMP  Y  ?\n"
            + "           ALF  AB\n" + "           END  0 " + "E".repeat(90) + "\nbehind\n").assemble();
        Kit.due("no error", b.error(), 0);
        Kit.due("lines", b.listing(), 9);
        Kit.dueLines("listing", b, 18,
            "0001                   * A REMARK",
            "0002",
            "0003                   X          EQU  5 FIVE",
            "0004                              ORIG -1",
            "0005 -0001 +0000786760            LDA  =3=",
            "0006 +0000 -0000000007 Y          CON  -7",
            "0007 +0001 +0000000039            JMP  Y",
            "0008 +0002 +0017301504            ALF  AB",
            "0009                              END  0 " + "E".repeat(62));
        b = Kit.ran("STZ|1", "HLT", "CON|8", "ORIG|2", "CON|-9", "END|0");
        b.listing();
        Kit.due("as it is now", Kit.line(b, 18, 1), "0002 +0001 +0000000000            HLT");
        Kit.due("a word put again", Kit.line(b, 18, 2), "0003 +0002 -0000000009            CON  8");
        Kit.due("again", Kit.line(b, 18, 4), "0005 +0002 -0000000009            CON  -9");
        SixBitBoard c = new SixBitBoard();
        Kit.assemble(c, "ORIG|3999", "CON|1", "ORIG|-3999", "CON|-0", "END|0");
        c.listing();
        Kit.due("3999", Kit.line(c, 18, 1), "0002 +3999 +0000000001            CON  1");
        Kit.due("-3999", Kit.line(c, 18, 3), "0004 -3999 -0000000000            CON  -0");
        Kit.feed(b, "NEW TAPE, NO TEXT");
        b.tear();
        Kit.due("the text is kept", b.listing(), 6);
        Kit.due("line", Kit.line(b, 18, 5), "0006                              END  0");
    }

    private static void names() {
        SixBitBoard b = new SixBitBoard();
        Kit.assemble(b, "B|EQU|-0", "A|EQU|B+B", "AB|CON|A", "A1|CON|A-A(B:5)", "1A|JMP|FUT", "2H|EQU|2B1", "END|0");
        Kit.due("2B1 is a symbol that isn't there", b.error(), 4);
        Kit.assemble(b, "B|EQU|-0", "A|EQU|B+B", "AB|CON|A", "A1|CON|A-A(B:5)", "1A|JMP|FUT", "2H|EQU|A", "JMP|2B", "LDA|=A+9=,B(A1)", "LDA|FUT", "END|A");
        Kit.due("error", b.error(), 0);
        Kit.due("names", b.names(), 6);
        Kit.dueLines("names", b, 18,
            "1A         +0000000002",
            "A          +0000000000 0003 0004 0006 0008 0010",
            "A1         +0000000001 0008",
            "AB         +0000000000",
            "B          -0000000000 0002 0004 0008",
            "FUT        +0000000006 0005 0009");
        Kit.assemble(b, "Z9|EQU|9", "Z09Z|EQU|-1", "9Z|EQU|0", "ZZ|EQU|5", "0Z0|EQU|1", "END|0");
        b.tear();
        b.names();
        Kit.dueLines("digits ahead of letters", b, 18, "0Z0        +0000000001", "9Z         +0000000000", "Z09Z       -0000000001", "Z9         +0000000009",
            "ZZ         +0000000005");
        StringBuilder text = new StringBuilder(Kit.source("ABCDEFGHIJ|EQU|-123"));
        for (int k = 0; k < 20; k++) {
            text.append(Kit.source("CON|ABCDEFGHIJ"));
        }
        Kit.feed(b, text + Kit.source("END|0")).assemble();
        b.tear();
        b.names();
        StringBuilder want = new StringBuilder("ABCDEFGHIJ -0000000123");
        for (int k = 2; k <= 17; k++) {
            want.append(String.format(" %04d", k));
        }
        Kit.dueLines("16 lines at most", b, 18, want.toString());
        Kit.assemble(b, "1H|NOP|", "JMP|1B", "END|0");
        b.tear();
        Kit.due("no symbols", b.names(), 0);
        Kit.due("no lines", b.unit(18), 0);
    }

    private static void trace() {
        SixBitBoard b = new SixBitBoard();
        Kit.assemble(b, "ENTA|-5,2", "LDX|W", "CMPA|W", "LDA|BIG", "INCA|1", "JMP|*+1", "OUT|100(18)", "HLT|", "W|CON|-7", "BIG|CON|1073741823", "END|0");
        Kit.due("trace 0", b.trace(0), 0);
        Kit.due("below 0", b.trace(-1), 0);
        Kit.due("301", b.trace(301), 0);
        Kit.due("greatest", b.trace(Integer.MAX_VALUE), 0);
        Kit.due("least", b.trace(Integer.MIN_VALUE), 0);
        Kit.due("nothing was done", b.time(), 0);
        Kit.due("two", b.trace(2), 2);
        Kit.due("to the end", b.trace(300), 6);
        Kit.dueLines("trace", b, 18,
            "+0000 -0005 02 02 48 ENTA -0000000005 +0000000000 0 E 000000001",
            "+0001 +0008 00 05 15 LDX  -0000000005 -0000000007 0 E 000000003",
            "+0002 +0008 00 05 56 CMPA -0000000005 -0000000007 0 G 000000005",
            "+0003 +0009 00 05 08 LDA  +1073741823 -0000000007 0 G 000000007",
            "+0004 +0001 00 00 48 INCA +0000000000 -0000000007 1 G 000000008",
            "+0005 +0006 00 00 39 JMP  +0000000000 -0000000007 1 G 000000009",
            "",
            "+0006 +0100 00 18 37 OUT  +0000000000 -0000000007 1 G 000000010",
            "+0007 +0000 00 02 05 HLT  +0000000000 -0000000007 1 G 000000020");
        Kit.due("stopped", b.trace(5), 0);
        Kit.assemble(b, "STZ|0", "LDA|4000", "END|0");
        b.tear();
        Kit.due("a fault is not done", b.trace(5), 1);
        Kit.dueLines("its word as it was", b, 18, "+0000 +0000 00 05 33 STZ  +0000000000 +0000000000 0 E 000000002");
    }

    private static void traceWatched() {
        SixBitBoard b = new SixBitBoard();
        Kit.assemble(b, "ORIG|-12", "JMP|-50", "CON|0", "CON|100", "ORIG|-50", "HLT|", "ORIG|-100", "INT|", "ORIG|0", "LDA|4000", "END|-100");
        Kit.due("interrupts are none", b.trace(10), 3);
        Kit.dueLines("trace", b, 18,
            "-0100 +0000 00 03 05 INT  +0000000000 +0000000000 0 L 000000002",
            "-0012 -0050 00 00 39 JMP  +0000000000 +0000000000 0 L 000000003",
            "-0050 +0000 00 02 05 HLT  +0000000000 +0000000000 0 L 000000013");
        Kit.due("J below 0", b.register(8), -11);
    }

    private static void lost() {
        SixBitBoard b = new SixBitBoard();
        StringBuilder text = new StringBuilder();
        for (int k = 0; k < 400; k++) {
            text.append("           NOP\n");
        }
        Kit.feed(b, text + Kit.source("END|0")).assemble();
        Kit.due("all count", b.list(), 400);
        Kit.due("300 stay", b.unit(18), 300);
        Kit.due("all lines", b.listing(), 401);
        Kit.due("cards", b.deck(), 59);
        Kit.due("the last line", Kit.line(b, 18, 299), "0299 +0000 00 05 00 NOP");
        b.tear();
        Kit.due("trace", b.trace(300), 300);
        Kit.due("lines", b.unit(18), 300);
        Kit.due("trace", b.trace(10), 10);
        Kit.due("lines", b.unit(18), 300);
    }
}
