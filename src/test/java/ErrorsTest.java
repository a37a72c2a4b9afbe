/** Promises 5 (errors) and 6 (error). */
public final class ErrorsTest {
    public static void main(String[] args) {
        several();
        endings();
        passedOver();
        behind();
        many();
        Kit.close();
    }

    private static SixBitBoard check(String text, int count) {
        SixBitBoard b = new SixBitBoard();
        Kit.due("[" + text + "]", Kit.feed(b, text).errors(), count);
        return b;
    }

    private static void several() {
        SixBitBoard b = check("* REMARK\nA          CON  1  good\n 1         CON  1\nb          foo  1  bad?\nA          CON  1\n"
            + "           LDA  X+1\n           LDA  5000\n           FADD 1\n           END  A\n           CON  (\n", 6);
        Kit.dueLines("errors", b, 18,
            "0003 1  1         CON  1",
            "0004 2 B          FOO  1  BAD",
            "0005 3 A          CON  1",
            "0006 4            LDA  X+1",
            "0007 5            LDA  5000",
            "0008 8            FADD 1");
        Kit.due("the first one's kind", b.error(), 1);
        Kit.due("nothing is assembled", b.deck(), -1);
        Kit.due("state", b.state(), 9);
        Kit.due("memory as at first", b.word(0), 0);
        Kit.throwsNone("no symbol", () -> Kit.symbol(b, "A"));
    }

    private static void endings() {
        SixBitBoard b = check(Kit.source("CON|1"), 1);
        Kit.dueLines("no END", b, 18, "0002 7");
        Kit.due("kind", b.error(), 7);
        b = check("", 1);
        Kit.dueLines("empty", b, 18, "0001 7");
        b = check(Kit.source("CON|B", "END|C", "CON|D"), 4);
        Kit.dueLines("an END with errors is passed over", b, 18, "0001 4            CON  B", "0002 4            END  C", "0003 4            CON  D", "0004 7");
        b = check(Kit.source("JMP|X", "X|EQU|4096", "END|0", "CON|D"), 1);
        Kit.dueLines("5 of what comes ends the text", b, 18, "0003 5            END  0");
        b = check(Kit.source("LDA|=1=", "ORIG|4000", "END|0", "CON|D"), 1);
        Kit.dueLines("so does 6", b, 18, "0003 6            END  0");
        b = check(Kit.source("JMP|X", "LDA|=1=", "X|EQU|4096", "ORIG|4000", "END|0", "CON|D"), 1);
        Kit.dueLines("5 ahead of 6", b, 18, "0005 5            END  0");
        b = check(Kit.source("LDA|=1=", "ORIG|4000", "END|4000", "ORIG|0", "END|0", "FOO|"), 1);
        Kit.dueLines("5 of its own does not", b, 18, "0003 5            END  4000");
        b = check(Kit.source("ORIG|-3999", "CON|1", "END|-3999"), 0);
        Kit.due("addresses below 0 are right", b.error(), 0);
        b = check(Kit.source("CON|1", "END|0"), 0);
        Kit.due("no error", b.error(), 0);
        Kit.due("no line", b.unit(18), 0);
        Kit.due("nothing is assembled", b.list(), -1);
        Kit.due("state", b.state(), 9);
        Kit.due("run", b.run(5), 0);
    }

    /** A line with an error leaves nothing behind: no symbol, no word, no use. */
    private static void passedOver() {
        SixBitBoard b = check(Kit.source("A|CON|(", "CON|A", "A|CON|2", "LDA|A", "END|A"), 2);
        Kit.dueLines("A is not defined by line 1", b, 18, "0001 1 A          CON  (", "0002 4            CON  A");
        b = check(Kit.source("ORIG|3999", "LDA|=1=)", "CON|2", "CON|3", "END|0"), 2);
        Kit.dueLines("no literal of line 2", b, 18, "0002 1            LDA  =1=)", "0004 6            CON  3");
        b = check(Kit.source("JMP|X,7", "X|EQU|4096", "END|0"), 1);
        Kit.dueLines("no use in line 1", b, 18, "0001 5            JMP  X,7");
        b = check(Kit.source("JMP|2F", "2H|CON|(", "CON|2B", "END|0"), 2);
        Kit.dueLines("no 2H", b, 18, "0002 1 2H         CON  (", "0003 4            CON  2B");
        b = check(Kit.source("JMP|X", "END|X+Y", "CON|X", "X|CON|1", "END|X"), 2);
        Kit.dueLines("what came at an END with errors is open again", b, 18, "0002 4            END  X+Y", "0003 4            CON  X");
        b = check(Kit.source("JMP|X", "X|END|Y", "X|CON|1", "END|X"), 1);
        Kit.dueLines("END's LOC is passed over too", b, 18, "0002 4 X          END  Y");
        b = check(Kit.source("A|ORIG|5000", "CON|A", "END|0"), 2);
        Kit.due("ORIG with an error", b.error(), 5);
    }

    private static void behind() {
        SixBitBoard b = Kit.ran("ENTA|5", "STA|9", "HLT", "END|0");
        Kit.feed(b, Kit.source("A|CON|5", "CON|)", "END|0")).errors();
        Kit.due("memory as at first", b.word(9), 0);
        Kit.due("A as at first", b.register(0), 0);
        Kit.due("time 0", b.time(), 0);
        Kit.due("state 9", b.state(), 9);
        Kit.due("error", b.error(), 1);
        Kit.due("names", b.names(), -1);
        Kit.due("listing", b.listing(), -1);
        Kit.due("then it is right", Kit.assemble(b, "CON|5", "END|0"), 1);
        Kit.due("error", b.error(), 0);
    }

    private static void many() {
        SixBitBoard b = check("A\n".repeat(400), 401);
        Kit.due("300 lines stay", b.unit(18), 300);
        Kit.due("the last", Kit.line(b, 18, 299), "0300 2 A");
        b = check("X".repeat(100) + "\n" + "           end  0\n", 1);
        Kit.dueLines("80 letters", b, 18, "0001 2 " + "X".repeat(80));
    }
}
