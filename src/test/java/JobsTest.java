/** Terms: object cards and the monitor; promises 16 (jobs), 17 (account), 18 (summary). */
public final class JobsTest {
    private static final String HALT = Kit.source("HLT|", "END|0");

    public static void main(String[] args) {
        ends();
        jobCards();
        standing();
        objectCards();
        same();
        data();
        options();
        tracing();
        dump();
        errorList();
        behind();
        stopped();
        accounts();
        none();
        many();
        Kit.close();
    }

    private static String job(String card, String body, String... data) {
        return card + "\n" + body + "*DATA\n" + Kit.lines(data) + "*END\n";
    }

    private static SixBitBoard run(String deck, int jobs) {
        SixBitBoard b = new SixBitBoard();
        Kit.due("[" + deck + "]", Kit.feed(b, deck).jobs(), jobs);
        return b;
    }

    private static String line(String name, String end, int kind, int place, int u) {
        return String.format("%-15s%-6s%04d %04d     %05d", name, end, kind, place, u);
    }

    private static void ends() {
        SixBitBoard b = run(job("*JOB ONE 9999", Kit.source("GO|IN|1000(16)", "JBUS|*(16)", "OUT|1000(18)", "HLT|", "END|GO"), "HELLO, WORLD")
            + job("*job two 100", Kit.source("GO|JMP|GO", "END|GO"))
            + job("*JOB 3 00500", Kit.source("GO|LDA|4000", "END|GO"))
            + job("*JOB ABCDEFGHIJ 0", Kit.source("CON|1", "CON|)", "END|GO"))
            + job("*JOB FIVE 1", "*LOAD\n     0000X\n"), 5);
        Kit.dueLines("ends", b, 18, "HELLO, WORLD", line("ONE", "HALT", 0, 4, 1012), line("TWO", "LIMIT", 0, 0, 100),
            line("3", "FAULT", 2, 0, 0), line("ABCDEFGHIJ", "ERROR", 1, 2, 0), line("FIVE", "CARD", 0, 1, 0));
        int[][] want = {{0, 0, 4, 1012}, {1, 0, 0, 100}, {2, 2, 0, 0}, {3, 1, 2, 0}, {4, 0, 1, 0}};
        for (int k = 0; k < 5; k++) {
            for (int what = 0; what < 4; what++) {
                Kit.due("account " + k + " " + what, b.account(k, what), want[k][what]);
            }
        }
        b = run(job("*JOB A 11", Kit.source("NOP|", "HLT|", "END|0")), 1);
        Kit.dueLines("just in the limit", b, 18, line("A", "HALT", 0, 2, 11));
        b = run(job("*JOB A 10", Kit.source("NOP|", "HLT|", "END|0")), 1);
        Kit.dueLines("just not", b, 18, line("A", "LIMIT", 0, 1, 1));
        Kit.due("state", b.state(), 9);
        b = run(job("*JOB A 0", HALT), 1);
        Kit.dueLines("limit 0", b, 18, line("A", "LIMIT", 0, 0, 0));
        b = run(job("*JOB A 0", Kit.source("CON|63(3:3)", "END|0")), 1);
        Kit.dueLines("fault 1 ahead of the limit", b, 18, line("A", "FAULT", 1, 0, 0));
        b = run(job("*JOB A 1", Kit.source("ORIG|3999", "NOP|", "END|3999")), 1);
        Kit.dueLines("fault 2 of the counter ahead of the limit", b, 18, line("A", "FAULT", 2, 4000, 1));
        b = run(job("*JOB A 1", Kit.source("LDA|4000", "END|0")), 1);
        Kit.dueLines("the limit ahead of fault 2", b, 18, line("A", "LIMIT", 0, 0, 0));
        b = run(job("*JOB A 500", Kit.source("OUT|0(18)", "IN|0(18)", "END|0")), 1);
        Kit.dueLines("waiting counts, whatever faults come", b, 18, "   Q7   Q6", line("A", "LIMIT", 0, 1, 1));
        b = run(job("*JOB A 751", Kit.source("OUT|50(18)", "OUT|50(18)", "HLT|", "END|0")), 1);
        Kit.dueLines("waiting in the limit", b, 18, "", "", line("A", "LIMIT", 0, 2, 751));
        b = run(job("*JOB A 99999", Kit.source("JMP|0", "END|0")), 1);
        Kit.dueLines("the greatest limit", b, 18, line("A", "LIMIT", 0, 0, 99999));
    }

    private static void jobCards() {
        String rest = "\n" + HALT + "*DATA\n*END\n";
        String[] right = {"*JOB A 1", "*JOB A 1   ", "*JOB 1234567890 12345", "*job a 1 dump", "*JOB A 1 LIST", "*JOB A 1 NAMES", "*JOB A 1 DECK", "*JOB A 1 TRACE",
            "*JOB A 1 DUMP LIST NAMES DECK TRACE", "*JOB A 1 DUMP TRACE  ", "*JOB A 1 LIST DECK", "*JOB A 1\t", "*JOB\tA\t1?", "*JOB A 00000",
            "*JOB A 1" + " ".repeat(72) + "ANYTHING"};
        for (String card : right) {
            run(card + rest, 1);
        }
        String[] none = {"*JOB", "*JOB A", "*JOB  A 1", "*JOB A  1", " *JOB A 1", "*JOB A 123456", "*JOB ABCDEFGHIJK 1", "*JOB A. 1", "*JOB A B", "*JOB A 1A",
            "*JOB A 1 X", "*JOB A 1 LIST DUMP", "*JOB A 1 DUMP DUMP", "*JOB A 1  DUMP", "*JOB A 1 DUMPX", "*JOB A 1 DUMPLIST", "*JOB A 1 DUMP  LIST", "*JOBA 1",
            "JOB A 1", "*JOB A -1", "*JOB A 1 DUMP X", "*JOB A 1 TRACE DECK", "*JOB A 1" + " ".repeat(71) + "X", "", "*JOB A 1.", "*JOB ~ 1"};
        for (String card : none) {
            run(card + rest, 0);
        }
        SixBitBoard b = run("*JOB A 1" + rest + "*JOB WRONG" + rest + "GONE OVER\n*JOB B 1" + rest, 2);
        Kit.due("A", b.letter(18, 0, 0), 'A');
        Kit.due("B", b.letter(18, 1, 0), 'B');
    }

    private static void standing() {
        SixBitBoard b = run("*JOB A 100\n" + HALT + "*JOB B 100\n" + HALT + "*DATA\nX\n*JOB C 100\n*LOAD\n*JOB D 100\n*DATA\n*END\n*JOB E 1\n*SAME\n", 1);
        Kit.dueLines("jobs that end early are none", b, 18, line("D", "ERROR", 7, 1, 0));
        Kit.due("error", b.error(), 7);
        run("*JOB A 1\n" + HALT + "*DATA\n", 0);
        run("*JOB A 1\n" + HALT + "*END\n*DATA\n", 0);
        run("*JOB A 1\n" + HALT + "*DATAX\n*END\n", 0);
        run("*JOB A 1\n" + HALT + "*DATA X\n*END OF IT", 1);
        run("*JOB A 1\n" + HALT + "*DATA\n*ENDX\n *END\n", 0);
        b = run("*JOB A 100\n*END\n*LOAD\n*SAME\n" + Kit.source("LDA|5", "HLT|", "END|0") + "BEHIND END\n*END\n*DATA\n*END", 1);
        Kit.dueLines("*END, *LOAD, *SAME in source are remarks", b, 18, line("A", "HALT", 0, 2, 12));
        b = run(job("*JOB A 100", "*LOADX\n" + HALT), 1);
        Kit.dueLines("*LOADX is a remark", b, 18, line("A", "HALT", 0, 1, 10));
        b = run(job("*JOB A 100", Kit.source("ORIG|-1", "END|0")) + job("*JOB B 100", Kit.source("END|-1")) + job("*JOB C 100", Kit.source("ORIG|-0", "HLT|", "END|-0"))
            + job("*JOB D 100", Kit.source("ORIG|4001", "END|0")), 4);
        Kit.dueLines("addresses below 0", b, 18, line("A", "ERROR", 5, 1, 0), line("B", "ERROR", 5, 1, 0), line("C", "HALT", 0, 1, 10), line("D", "ERROR", 5, 1, 0));
        b = run(job("*JOB A 100", Kit.source("INT|", "END|0")), 1);
        Kit.dueLines("a job is in NORMAL", b, 18, line("A", "FAULT", 1, 0, 0));
        b = run(job("*JOB A 100", Kit.source("CON|1", "CON|1")), 1);
        Kit.dueLines("no END", b, 18, line("A", "ERROR", 7, 3, 0));
    }

    private static void card(String what, int place, String... cards) {
        SixBitBoard b = run(job("*JOB A 100", "*LOAD\n" + Kit.lines(cards)), 1);
        if (place == 0) {
            Kit.due(what, b.account(0, 0), 0);
        } else {
            Kit.dueLines(what, b, 18, line("A", "CARD", 0, place, 0));
        }
        Kit.due(what + ", no error", b.error(), 0);
        Kit.due(what + ", nothing is assembled", b.deck(), -1);
    }

    private static void objectCards() {
        String hlt = "0000000133";
        card("one word", 0, "     10000" + hlt, "     00000");
        card("anything in columns 1 to 5 and behind", 0, "NAME 10000" + hlt + " REST", "*?=  00000HELLO");
        card("behind the transfer card", 0, "     10000" + hlt, "     00000", "NO CARD", "*LOAD");
        card("seven words", 0, "     73993" + "000000000~".repeat(6) + hlt, "     03993");
        card("out of memory", 1, "     73994" + hlt.repeat(7), "     00000");
        card("address 4000", 1, "     14000" + hlt, "     00000");
        card("transfer to 4000", 2, "     10000" + hlt, "     04000");
        card("transfer to 3999", 0, "     13999" + hlt, "     03999");
        card("eight", 1, "     80000" + hlt, "     00000");
        card("no digit", 1, "      0000" + hlt, "     00000");
        card("no address", 1, "     1 000" + hlt, "     00000");
        card("too few words", 1, "     20000" + hlt, "     00000");
        card("no digits", 1, "     10000" + "000000000S", "     00000");
        card("no digits", 1, "     10000" + "0000 00133", "     00000");
        card("a letter within", 1, "     10000" + "00000000J0", "     00000");
        card("too great", 1, "     10000" + "1073741824", "     00000");
        card("too great below 0", 1, "     10000" + "107374182M", "     00000");
        card("the greatest", 0, "     20000" + hlt + "1073741823", "     00000");
        card("the least", 0, "     20000" + hlt + "107374182L", "     00000");
        card("a blank card", 2, "     10000" + hlt, "", "     00000");
        card("*SAME is no object card", 2, "     10000" + hlt, "*SAME", "     00000");
        card("*END is no object card", 2, "     10000" + hlt, "*END", "     00000");
        card("no transfer card", 3, "     10000" + hlt, "     10001" + hlt);
        card("no cards", 1);
        card("small letters", 0, "     20000" + hlt + "000000000j", "     00000");
        SixBitBoard b = run(job("*JOB A 100", "*LOAD\n     30010" + hlt + "000000000~" + "000000012L\n     10011" + "0000000007\n     00010\n"), 1);
        Kit.due("HLT", b.word(10), 133);
        Kit.due("a later card", b.word(11), 7);
        Kit.due("-123", b.word(12), -123);
        Kit.due("counter", b.register(11), 11);
        Kit.dueLines("it starts there", b, 18, line("A", "HALT", 0, 11, 10));
        // what deck() punches is what *LOAD takes
        SixBitBoard c = new SixBitBoard();
        Kit.assemble(c, "ORIG|100", "GO|LDA|W", "ADD|=-0=", "STA|50", "HLT|", "W|CON|-12345", "END|GO");
        int count = c.deck();
        StringBuilder cards = new StringBuilder("*LOAD\n");
        for (int k = 0; k < count; k++) {
            cards.append(Kit.line(c, 17, k)).append('\n');
        }
        Kit.due("jobs", Kit.feed(c, job("*JOB A 100", cards.toString())).jobs(), 1);
        Kit.due("state", c.state(), 1);
        Kit.due("it did it", c.word(50), -12345);
    }

    private static void same() {
        String count = Kit.source("LDA|W", "INCA|1", "STA|W", "HLT|", "W|CON|5", "END|0");
        SixBitBoard b = run(job("*JOB A 100", "*SAME\n") + job("*JOB B 100", count) + job("*JOB C 100", "*SAME X\nANYTHING\n*LOAD\n*END\n")
            + job("*JOB D 100", Kit.source("FOO|")) + job("*JOB E 4", "*SAME\n") + job("*JOB F 1", "*LOAD\n") + job("*JOB G 100", "*SAME\n"), 7);
        Kit.dueLines("same", b, 18, line("A", "CARD", 0, 1, 0), line("B", "HALT", 0, 4, 15), line("C", "HALT", 0, 4, 15), line("D", "ERROR", 2, 1, 0),
            line("E", "LIMIT", 0, 2, 3), line("F", "CARD", 0, 1, 0), line("G", "HALT", 0, 4, 15));
        Kit.due("as it was assembled", b.word(4), 6);
        Kit.due("nothing is assembled", b.deck(), -1);
        Kit.due("no error of object cards", b.error(), 0);
        Kit.throwsNone("no symbol", () -> Kit.symbol(b, "W"));
        Kit.due("another deck", Kit.feed(b, job("*JOB H 100", "*SAME\n")).jobs(), 1);
        Kit.due("has none ahead of it", b.account(0, 0), 4);
        Kit.assemble(b, "A|CON|1", "END|0");
        Kit.feed(b, job("*JOB H 100", "*LOAD\n     00000\n")).jobs();
        Kit.due("nothing is assembled behind object cards", b.list(), -1);
        Kit.due("behind source, then *SAME", Kit.feed(b, job("*JOB A 100", HALT) + job("*JOB B 100", "*SAME\n")).jobs(), 2);
        Kit.due("nothing is assembled", b.listing(), -1);
        SixBitBoard c = run(job("*JOB A 100", "*LOAD\n     20003" + "0000000133" + "000000000N\n     00003\n") + job("*JOB B 100", "*SAME\n"), 2);
        Kit.due("object cards again", c.word(4), -5);
        Kit.due("start", c.register(11), 4);
    }

    private static void data() {
        String read = Kit.source("IN|100(16)", "JBUS|*(16)", "IN|116(16)", "HLT|", "END|0");
        SixBitBoard b = new SixBitBoard();
        Kit.feed(b, "OLD\n".repeat(5)).cards();
        Kit.feed(b, job("*JOB A 9999", read, "ONE", "TWO", "THREE")).jobs();
        Kit.due("the data cards alone", b.unit(16), 1);
        Kit.due("state", b.state(), 1);
        Kit.due("all is done", b.word(116), ((23L * 64 + 26) * 64 + 16) * 4096);
        b = run(job("*JOB A 9999", read, "ONE", "*DATA", "TWO"), 1);
        Kit.dueLines("* and what is behind is not there", b, 18, line("A", "FAULT", 6, 2, 1001));
        Kit.due("none left", b.unit(16), 0);
        b = run(job("*JOB A 9999", read, "*ONE", "TWO", "THREE"), 1);
        Kit.dueLines("none at all", b, 18, line("A", "FAULT", 6, 0, 0));
        Kit.due("none", b.unit(16), 0);
        b = run(job("*JOB A 9", Kit.source("FOO|"), "ONE", "TWO", "*", "THREE"), 1);
        Kit.due("ERROR: all data cards", b.unit(16), 2);
        b = run(job("*JOB A 9", "*LOAD\n", "ONE", "", "THREE"), 1);
        Kit.due("CARD: all data cards", b.unit(16), 3);
        Kit.due("go", b.go(), true);
        Kit.due("ONE", b.word(0), ((16L * 64 + 15) * 64 + 5) * 4096);
        b = run(job("*JOB A 9", HALT, "\n".repeat(1000).split("x")), 1);
        Kit.due("a thousand blank ones", b.unit(16), 1001);
        Kit.due("no more come", Kit.feed(b, "X").cards(), -1);
        b = run(job("*JOB A 9", HALT, "ONE") + job("*JOB B 9", HALT), 2);
        Kit.due("the last job's", b.unit(16), 0);
    }

    private static void options() {
        String text = Kit.source("GO|LDA|FUT", "HLT|", "CON|9(4:4),5(5:5)", "B|EQU|GO", "END|GO");
        SixBitBoard b = run(job("*JOB A 100 LIST NAMES DECK", text), 1);
        Kit.dueLines("printer", b, 18, "0000 +0003 00 05 08 LDA", "0001 +0000 00 02 05 HLT", "0002 +0000 00 09 05", "0003 +0000 00 00 00 NOP",
            "B          +0000000000", "FUT        +0000000003 0001", "GO         +0000000000 0004 0005", line("A", "HALT", 0, 2, 12));
        Kit.dueLines("punch", b, 17, "     40000" + "0000786760" + "0000000133" + "0000000581" + "0000000000", "     00000");
        StringBuilder wide = new StringBuilder(Kit.source("A|EQU|1"));
        for (int k = 0; k < 12; k++) {
            wide.append(Kit.source("CON|A"));
        }
        b = run(job("*JOB X 9 NAMES DECK", wide + Kit.source("END|0")), 1);
        Kit.due("ten lines at most", Kit.line(b, 18, 0), "A          +0000000001 0002 0003 0004 0005 0006 0007 0008 0009 0010 0011");
        Kit.due("cards are whole", Kit.line(b, 17, 0), "     70000" + "0000000001".repeat(7));
        Kit.due("names() has more", b.names(), 1);
        Kit.due("twelve", Kit.line(b, 18, 2).length(), 22 + 60);
        b = run(job("*JOB A 9 LIST NAMES DECK", "*LOAD\n     00000\n"), 1);
        Kit.dueLines("not of object cards", b, 18, line("A", "LIMIT", 0, 9, 9));
        Kit.due("no cards", b.unit(17), 0);
    }

    private static void tracing() {
        SixBitBoard b = run(job("*JOB A 30 TRACE", Kit.source("ENTA|5", "OUT|50(18)", "HLT|", "END|0")), 1);
        Kit.dueLines("trace", b, 18,
            "+0000 +0005 00 02 48 ENTA +0000000005 +0000000000 0 E 000000001",
            "",
            "+0001 +0050 00 18 37 OUT  +0000000005 +0000000000 0 E 000000002",
            "+0002 +0000 00 02 05 HLT  +0000000005 +0000000000 0 E 000000012",
            line("A", "HALT", 0, 3, 12));
        b = run(job("*JOB A 60 TRACE", "*LOAD\n     10000" + "0000000039\n     00000\n"), 1);
        Kit.due("the first 50", b.unit(18), 51);
        Kit.due("the 50th", Kit.line(b, 18, 49), "+0000 +0000 00 00 39 JMP  +0000000000 +0000000000 0 E 000000050");
        b = run(job("*JOB A 1 LIST TRACE", Kit.source("NOP|", "HLT|", "END|0")), 1);
        Kit.dueLines("LIST ahead of its run", b, 18, "0000 +0000 00 05 00 NOP", "0001 +0000 00 02 05 HLT",
            "+0000 +0000 00 05 00 NOP  +0000000000 +0000000000 0 E 000000001", line("A", "LIMIT", 0, 1, 1));
    }

    private static void dump() {
        SixBitBoard b = run(job("*JOB A 50 DUMP", Kit.source("ENTA|5", "ENN1|1", "ENN6|0", "LDX|3999", "HLT|", "ORIG|10", "CON|-0", "ORIG|3999", "CON|-1073741823", "END|0")), 1);
        Kit.dueLines("dump", b, 18, line("A", "HALT", 0, 5, 15),
            "A        +0000000005", "I1       -0000000001", "I2       +0000000000", "I3       +0000000000", "I4       +0000000000", "I5       +0000000000",
            "I6       -0000000000", "X        -1073741823",
            " 0000    +0001310896    +0000262385    +0000000246    +1048314191",
            " 0004    +0000000133    +0000000000    +0000000000    +0000000000",
            " 0008    +0000000000    +0000000000    -0000000000    +0000000000",
            " 3996    +0000000000    +0000000000    +0000000000    -1073741823");
        for (int k = 4; k < 8; k++) {
            String one = Kit.source("HLT|", "ORIG|" + k, "CON|-0", "END|0");
            Kit.due("one word of four", run(job("*JOB A 99 DUMP", one), 1).unit(18), 1 + 8 + 2);
        }
        Kit.due("LIMIT", run(job("*JOB A 0 DUMP", HALT), 1).unit(18), 1 + 8 + 1);
        Kit.due("FAULT", run(job("*JOB A 9 DUMP", Kit.source("LDA|4000", "END|0")), 1).unit(18), 1 + 8 + 1);
        Kit.due("ERROR", run(job("*JOB A 9 DUMP", Kit.source("FOO|")), 1).unit(18), 1);
        Kit.due("CARD", run(job("*JOB A 9 DUMP", "*LOAD\n"), 1).unit(18), 1);
    }

    private static void errorList() {
        String wide = "           CON  1)" + "X".repeat(70);
        SixBitBoard b = run(job("*JOB A 50 DUMP LIST NAMES", Kit.source("CON|1") + wide + "\n" + Kit.source("FOO|", "ORIG|-1")), 1);
        Kit.dueLines("the lines as of errors()", b, 18, "0002 1 " + wide.substring(0, 68), "0003 2            FOO", "0004 5            ORIG -1", "0005 7",
            line("A", "ERROR", 1, 2, 0));
        Kit.due("error", b.error(), 1);
        Kit.due("memory as at first", b.word(0), 0);
        Kit.due("state", b.state(), 9);
        b = run(job("*JOB A 50 NAMES", Kit.source("FOO|")), 1);
        Kit.due("not without LIST", b.unit(18), 1);
    }

    private static void behind() {
        SixBitBoard b = new SixBitBoard();
        Kit.assemble(b, "ORIG|-5", "CON|3", "ORIG|0", "OUT|0(2)", "OUT|0(2)", "HLT|", "END|0");
        b.run(9);
        Kit.due("tape 2", b.unit(2), 2);
        Kit.feed(b, job("*JOB A 5000", Kit.source("OUT|0(3)", "ENTA|7", "OUT|0(4)", "GO|LDX|4", "HLT|", "END|0"))
            + job("*JOB B 5000", Kit.source("IN|100(3)", "ENT1|5", "CMPA|=1=", "HLT|", "L|EQU|9", "END|0"))).jobs();
        Kit.due("tapes at 0", b.unit(2), 0);
        Kit.due("and where the last job left them", b.unit(3), 1);
        Kit.due("tape 4", b.unit(4), 0);
        Kit.due("blocks stay", b.block(4, 0, 1), 7L * (1 << 18) + 2 * 64 + 48);
        Kit.due("what the last job read", b.word(101), 7L * (1 << 18) + 2 * 64 + 48);
        Kit.due("A", b.register(0), 0);
        Kit.due("I1", b.register(1), 5);
        Kit.due("comparison", b.register(10), -1);
        Kit.due("counter", b.register(11), 4);
        Kit.due("time", b.time(), 1 + 1 + 2 + 10);
        Kit.due("words below 0", b.word(-5), 0);
        Kit.due("state", b.state(), 1);
        Kit.due("run", b.run(10), 0);
        Kit.due("a job's symbol", Kit.symbol(b, "L"), 9);
        Kit.throwsNone("not of an earlier job", () -> Kit.symbol(b, "GO"));
        Kit.due("a job's source is assembled", b.deck(), 2);
        Kit.due("list", b.list(), 5);
        b.tear();
        Kit.due("listing", b.listing(), 6);
        Kit.due("its lines", Kit.line(b, 18, 2), "0003 +0002 +0001048952            CMPA =1=");
        Kit.due("the last one", Kit.line(b, 18, 5), "0006                              END  0");
        Kit.feed(b, job("*JOB A 9", Kit.source("LDA|4000", "END|0"))).jobs();
        Kit.due("FAULT's state", b.state(), 3);
        Kit.feed(b, job("*JOB A 99", Kit.source("JMP|*+1", "ENTA|7", "HLT|", "END|0")) + job("*JOB B 9", Kit.source("CON|5", "FOO|"))).jobs();
        Kit.due("ERROR's state", b.state(), 9);
        Kit.due("memory as at first", b.word(0), 0);
        for (int k = 0; k <= 11; k++) {
            Kit.due("register " + k + " as at first", b.register(k), 0);
        }
        Kit.due("time", b.time(), 0);
        Kit.due("error", b.error(), 2);
        Kit.due("deck", b.deck(), -1);
    }

    /** When the machine stops all that began is done, by whatever it stops. */
    private static void stopped() {
        String read = Kit.source("IN|100(16)", "NOP|", "HLT|", "END|0");
        Kit.due("LIMIT", run(job("*JOB A 2", read, "ABCDE"), 1).word(100), (((1L * 64 + 2) * 64 + 3) * 64 + 4) * 64 + 5);
        Kit.due("HALT", run(job("*JOB A 99", read, "ABCDE"), 1).word(100), (((1L * 64 + 2) * 64 + 3) * 64 + 4) * 64 + 5);
        String wrong = Kit.source("IN|100(16)", "LDA|4000", "END|0");
        Kit.due("FAULT", run(job("*JOB A 99", wrong, "ABCDE"), 1).word(100), (((1L * 64 + 2) * 64 + 3) * 64 + 4) * 64 + 5);
        SixBitBoard b = run(job("*JOB A 2 DUMP", read, "ABCDE"), 1);
        Kit.due("in the dump too", Kit.line(b, 18, 10), " 0100    +0017314053    +0000000000    +0000000000    +0000000000");
    }

    private static void accounts() {
        SixBitBoard b = run(job("*JOB A 9999", Kit.source("NOP|", "HLT|", "END|0")) + job("*JOB B 7", Kit.source("JMP|0", "END|0")) + job("*JOB C 9", "*LOAD\n"), 3);
        int[][] none = {{-1, 0}, {3, 0}, {0, -1}, {0, 4}, {Integer.MIN_VALUE, Integer.MIN_VALUE}, {Integer.MAX_VALUE, Integer.MAX_VALUE}};
        for (int[] k : none) {
            Kit.due("account " + k[0] + " " + k[1], b.account(k[0], k[1]), -1);
        }
        b.tear();
        Kit.due("summary", b.summary(), 18);
        Kit.dueLines("summary", b, 18, "JOBS 0003 HALT 0001 LIMIT 0001 FAULT 0000 ERROR 0000 CARD 0001 0000000018");
        Kit.due("a deck without jobs", Kit.feed(b, "*JOB\nNOTHING\n").jobs(), 0);
        Kit.due("the latest deck that had one", b.account(1, 3), 7);
        Kit.due("summary", b.summary(), 18);
        Kit.assemble(b, "HLT|", "END|0");
        Kit.due("still", b.account(0, 3), 11);
        Kit.feed(b, job("*JOB A 9", Kit.source("FOO|"))).jobs();
        Kit.due("a new one", b.account(0, 0), 3);
        Kit.due("only one", b.account(1, 0), -1);
        b.tear();
        Kit.due("summary", b.summary(), 0);
        Kit.dueLines("summary", b, 18, "JOBS 0001 HALT 0000 LIMIT 0000 FAULT 0000 ERROR 0001 CARD 0000 0000000000");
    }

    /** Without any job all else stays as it is. */
    private static void none() {
        SixBitBoard b = Kit.ran("A|ENTA|5", "HLT|", "END|0");
        Kit.feed(b, "CARD").cards();
        Kit.due("no job", Kit.feed(b, "*JOB A 5\nNOTHING\n").jobs(), 0);
        Kit.due("A", b.register(0), 5);
        Kit.due("state", b.state(), 1);
        Kit.due("time", b.time(), 11);
        Kit.due("reader", b.unit(16), 1);
        Kit.due("symbol", Kit.symbol(b, "A"), 0);
        Kit.due("listing", b.listing(), 3);
        Kit.due("line", Kit.line(b, 18, 0), "0001 +0000 +0001310896 A          ENTA 5");
        Kit.due("no deck", b.summary(), -1);
    }

    private static void many() {
        SixBitBoard b = run("*JOB A 0\n*DATA\n*END\n".repeat(409), 409);
        Kit.due("the last account", b.account(408, 0), 3);
        Kit.due("300 lines", b.unit(18), 300);
        Kit.due("summary", b.summary(), 0);
    }
}
