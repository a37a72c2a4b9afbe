/** Terms: units and letters; promises 15 (mount), 24 (unit), 25 (letter), 26 (block), 27 (tear). */
public final class UnitTest {
    private static final String LETTERS = " ABCDEFGHI~JKLMNOPQR[#STUVWXYZ0123456789.,()+-*/=$<>@;:'";

    public static void main(String[] args) {
        tapes();
        disks();
        timing();
        together();
        reader();
        letters();
        printing();
        mounting();
        blocks();
        tearing();
        Kit.close();
    }

    private static void tapes() {
        SixBitBoard b = new SixBitBoard();
        Kit.assemble(b, "LDA|=77=", "STA|1000", "OUT|1000(2)", "OUT|1001(2)", "IOC|0(2)", "IN|2000(2)", "HLT", "END|0");
        b.run(3);
        Kit.due("OUT is there as soon as it begins", b.block(2, 0, 0), 77);
        Kit.due("one on", b.unit(2), 1);
        Kit.due("u", b.time(), 5);
        b.run(1);
        Kit.due("the second waits", b.time(), 4 + 500 + 1);
        Kit.due("two on", b.unit(2), 2);
        Kit.due("words behind", b.block(2, 1, 0), 0);
        b.run(1);
        Kit.due("IOC waits", b.time(), 4 + 1000 + 1);
        Kit.due("IOC 0: to the beginning", b.unit(2), 0);
        b.run(1);
        Kit.due("IN waits", b.time(), 4 + 1500 + 1);
        Kit.due("not done yet", b.word(2000), 0);
        b.run(1);
        Kit.due("HLT", b.state(), 1);
        Kit.due("all is done", b.word(2000), 77);
        Kit.due("u stays", b.time(), 4 + 1500 + 1 + 10);
        Kit.due("other tapes", b.unit(3), 0);
        String[] moves = {"5", "-2", "-9", "100", "-1", "0"};
        int[] at = {5, 3, 0, 64, 63, 0};
        b = new SixBitBoard();
        for (int k = 0; k < moves.length; k++) {
            Kit.assemble(b, "IOC|" + moves[k] + "(6)", "HLT", "END|0");
            b.run(9);
            Kit.due("IOC " + moves[k], b.unit(6), at[k]);
            Kit.due("it halts", b.state(), 1);
        }
        Kit.assemble(b, "IN|100(5)", "HLT", "END|0");
        b.run(9);
        Kit.due("IN goes one on", b.unit(5), 1);
        Kit.assemble(b, "HLT", "END|0");
        Kit.due("assembling leaves tapes", b.unit(5), 1);
    }

    private static void disks() {
        SixBitBoard b = Kit.ran("ENTX|63", "LDA|=-9=", "STA|1099", "OUT|1000(15)", "IN|2000(15)", "IOC|0(15)", "HLT", "END|0");
        Kit.due("block", b.block(15, 63, 99), -9);
        Kit.due("back", b.word(2099), -9);
        Kit.due("u", b.time(), 5 + 400 + 400 + 1 + 10);
        Kit.due("other blocks", b.block(15, 62, 99), 0);
        Kit.due("a disk stands nowhere", b.unit(15), -1);
        b = Kit.ran("IOC|0(8)", "HLT", "END|0");
        Kit.due("IOC of a disk", b.state(), 1);
        Kit.due("tapes stay", b.unit(7), 0);
    }

    private static void timing() {
        int[] units = {0, 7, 8, 15, 17, 18, 19};
        int[] busy = {500, 500, 400, 400, 1500, 750, 900};
        for (int k = 0; k < units.length; k++) {
            SixBitBoard b = Kit.ran("OUT|1000(" + units[k] + ")", "JBUS|*(" + units[k] + ")", "HLT", "END|0");
            Kit.due("unit " + units[k] + " is busy for", b.time() - 11, busy[k]);
            b = Kit.ran("OUT|1000(" + units[k] + ")", "JRED|0(" + units[k] + ")", "HLT", "END|0");
            Kit.due("JRED of a busy one", b.time(), 12);
        }
        SixBitBoard b = new SixBitBoard();
        Kit.feed(b, "A\n").cards();
        Kit.assemble(b, "IN|100(16)", "JBUS|*(16)", "LDA|100", "HLT", "END|0");
        b.run(2000);
        Kit.due("reader is busy for", b.time() - 13, 1000);
        Kit.due("it lies there when it is done", b.register(0), 1 << 24);
        b = Kit.ran("IOC|0(18)", "JBUS|*(18)", "HLT", "END|0");
        Kit.due("IOC's busy time", b.time() - 11, 750);
        Kit.feed(b, "A\nB\n").cards();
        Kit.assemble(b, "IN|100(16)", "IN|100(16)", "LDA|100", "HLT", "END|0");
        b.run(9);
        Kit.due("the first is done when the second begins", b.register(0), 1 << 24);
        Kit.due("the second when it stops", b.word(100), 2 << 24);
    }

    /** What comes into memory, in which order. */
    private static void together() {
        SixBitBoard b = new SixBitBoard();
        Kit.feed(b, "TAPE0").mount(0, 0);
        Kit.feed(b, "DISK8").mount(8, 0);
        // the tape begins at 0, the disk at 100: both are done at 500, the disk's words come last
        String[] same = {"IN|1000(0)", "ENT1|200", "MOVE|100(48)", "NOP", "IN|1000(8)", "HLT", "END|0"};
        Kit.assemble(b, same);
        b.run(4);
        Kit.due("time", b.time(), 100);
        b.run(9);
        Kit.due("of one end the later beginning last", b.word(1000), letters("DISK8"));
        Kit.feed(b, "TAPE1").mount(0, 1);
        same[4] = "NOP";
        same[3] = "IN|1000(8)";
        Kit.assemble(b, same);
        b.run(9);
        Kit.due("the later end last", b.word(1000), letters("TAPE1"));
        // the reader begins at 0, the tape at 500: both are done at 1000
        Kit.feed(b, "CARD").cards();
        Kit.feed(b, "TAPE3").mount(3, 0);
        Kit.assemble(b, "IN|1000(16)", "ENT1|200", "MOVE|100(63)", "MOVE|100(63)", "MOVE|100(63)", "MOVE|100(58)", "IN|1000(3)", "HLT", "END|0");
        b.run(6);
        Kit.due("time", b.time(), 500);
        b.run(9);
        Kit.due("the reader's first, the tape's behind it", b.word(1000), letters("TAPE3"));
        // what began for an earlier program never comes
        Kit.feed(b, "CARD").cards();
        Kit.assemble(b, "IN|1000(16)", "IN|1100(3)", "JMP|*", "END|0");
        b.run(3);
        Kit.assemble(b, "ENTX|0", "IN|1200(8)", "HLT", "END|0");
        b.run(9);
        Kit.due("not the card", b.word(1000), 0);
        Kit.due("the disk", b.word(1200), letters("DISK8"));
        // a store behind an IN that is not done is overwritten when it is done
        Kit.assemble(b, "ORIG|10", "IN|1000(8)", "LDA|=7=", "STA|1000", "JBUS|*(8)", "LDX|1000", "HLT", "END|10");
        b.run(1000);
        Kit.due("done behind the store", b.register(7), letters("DISK8"));
        // OUT takes what is there when it begins, with what is done by then
        SixBitBoard c = new SixBitBoard();
        Kit.feed(c, "ABCDE").mount(8, 0);
        Kit.assemble(c, "OUT|2000(18)", "IN|1000(8)", "OUT|1000(18)", "STZ|1000", "HLT", "END|0");
        c.run(3);
        Kit.due("OUT waited", c.time(), 751);
        Kit.dueLines("OUT", c, 18, "", "ABCDE");
        // LDA begins at 399, ends at 401; the disk is done at 400: it is read too early
        Kit.assemble(c, "IN|1000(8)", "ENT1|200", "MOVE|100(63)", "MOVE|100(63)", "MOVE|100(63)", "MOVE|100(7)", "NOP",
            "LDA|1000", "LDX|1000", "HLT", "END|0");
        c.run(7);
        Kit.due("time", c.time(), 1 + 1 + 3 * 127 + 15 + 1);
        c.run(1);
        Kit.due("not there at 399", c.register(0), 0);
        Kit.due("there at 401", c.word(1000), letters("ABCDE"));
        c.run(1);
        Kit.due("there for the next one", c.register(7), letters("ABCDE"));
    }

    private static void reader() {
        SixBitBoard b = new SixBitBoard();
        String card = LETTERS + "abcxyz\t?\"" + "!";
        Kit.feed(b, card + "\n*X" + "\n" + "Z".repeat(90) + "\n").cards();
        Kit.assemble(b, "IN|1000(16)", "IN|1016(16)", "IN|1032(16)", "HLT", "END|0");
        b.run(1);
        Kit.due("a card less", b.unit(16), 2);
        b.run(9);
        for (int i = 0; i < 80; i++) {
            int code = (int) (b.word(1000 + i / 5) >> 6 * (4 - i % 5)) & 63;
            String small = "ABCXYZ";
            int want = i < 56 ? i : i < 62 ? LETTERS.indexOf(small.charAt(i - 56)) : 0;
            Kit.due("column " + (i + 1), code, want);
        }
        Kit.due("* may be read", b.word(1016), 46L * (1 << 24) + 27 * (1 << 18));
        Kit.due("the rest is spaces", b.word(1031), 0);
        Kit.due("80 columns", b.word(1047), letters("ZZZZZ"));
        Kit.due("state", b.state(), 1);
        Kit.due("none left", b.unit(16), 0);
    }

    private static void letters() {
        String[] lines = new String[16];
        lines[0] = "ORIG|1000";
        for (int w = 0; w < 13; w++) {
            StringBuilder con = new StringBuilder("CON|");
            for (int k = 0; k < 5; k++) {
                int code = 5 * w + k;
                con.append(k == 0 ? "" : ",").append(code > 63 ? 1 : code).append("(").append(9 * (k + 1)).append(")");
            }
            lines[1 + w] = con.toString();
        }
        lines[14] = "OUT|1000(18)";
        lines[15] = "HLT|";
        SixBitBoard b = new SixBitBoard();
        String end = Kit.source("END|1013");
        Kit.feed(b, Kit.source(lines) + end).assemble();
        Kit.due("assembled", b.error(), 0);
        b.run(9);
        // behind the 13 words come the instructions' own words
        String line = Kit.line(b, 18, 0);
        Kit.due("all bytes", line.substring(0, 65), LETTERS + "????????A");
        Kit.due("OUT 1000(18) as letters", line.substring(65, 70), "N. Q7");
        Kit.due("HLT as letters", line.substring(70), "   BE");
    }

    private static void printing() {
        SixBitBoard b = Kit.ran("OUT|T(17)", "OUT|T(18)", "OUT|T(19)", "IOC|0(18)", "OUT|1000(18)", "HLT",
            "T|ALF|ONE T", "ALF|WO", "CON|-33(0:1)", "ORIG|T+13", "ALF|N14", "ALF|N15", "ALF|N16", "ALF|N17", "ORIG|T+22", "ALF|N23", "ALF|N24",
            "ALF|N25", "END|0");
        String start = String.format("%-10s%-55s", "ONE TWO", "3");
        Kit.dueLines("punch", b, 17, start + "N14  N15  N16");
        Kit.dueLines("printer", b, 18, String.format("%-110s", start + "N14  N15  N16  N17") + "N23  N24", "\f", "");
        Kit.dueLines("typewriter", b, 19, start + "N14");
        Kit.due("no more letters", b.letter(17, 0, 78), -1);
        Kit.due("last letter", b.letter(17, 0, 77), '6');
        Kit.due("form feed", b.letter(18, 1, 0), 12);
        Kit.due("no letter below 0", b.letter(18, 0, -1), -1);
        Kit.due("no line below 0", b.letter(18, -1, 0), -1);
        Kit.due("no line 3", b.letter(18, 3, 0), -1);
        Kit.due("reader has no lines", b.letter(16, 0, 0), -1);
        Kit.due("no unit 20", b.letter(20, 0, 0), -1);
        Kit.due("far", b.letter(Integer.MAX_VALUE, Integer.MAX_VALUE, Integer.MAX_VALUE), -1);
        Kit.due("far below", b.letter(18, Integer.MIN_VALUE, Integer.MIN_VALUE), -1);
        // at most 300 lines
        Kit.assemble(b, "OUT|T(18)", "INC2|1", "ST2|T(1:1)", "JMP|0", "T|ALF|A", "END|0");
        b.tear();
        b.run(4 * 305);
        Kit.due("300 lines", b.unit(18), 300);
        Kit.due("the later ones are lost", b.letter(18, 299, 0), LETTERS.charAt(299 % 64 < 56 ? 299 % 64 : 0));
        Kit.due("none", b.letter(18, 300, 0), -1);
    }

    private static void mounting() {
        SixBitBoard b = new SixBitBoard();
        Kit.due("one letter", Kit.feed(b, "a").mount(0, 63), 1);
        Kit.due("A", b.block(0, 63, 0), 1 << 24);
        Kit.due("501 letters", Kit.feed(b, "Z".repeat(501)).mount(15, 62), 2);
        Kit.due("full", b.block(15, 62, 99), letters("ZZZZZ"));
        Kit.due("the last", b.block(15, 63, 0), 29 << 24);
        Kit.due("behind", b.block(15, 63, 1), 0);
        Kit.due("500 letters", Kit.feed(b, "Y".repeat(500)).mount(15, 63), 1);
        Kit.due("+0 behind them in the last block", Kit.feed(b, "X").mount(15, 63), 1);
        Kit.due("gone", b.block(15, 63, 99), 0);
        Kit.due("they don't go in", Kit.feed(b, "Q".repeat(501)).mount(15, 63), -1);
        Kit.due("nothing is changed", b.block(15, 63, 0), letters("X    "));
        Kit.due("no unit 16", Kit.feed(b, "Q").mount(16, 0), -1);
        Kit.due("no unit -1", Kit.feed(b, "Q").mount(-1, 0), -1);
        Kit.due("no block 64", Kit.feed(b, "Q").mount(0, 64), -1);
        Kit.due("no block -1", Kit.feed(b, "Q").mount(0, -1), -1);
        Kit.due("no block 64 for none", b.mount(0, 64), -1);
        Kit.due("none", b.mount(0, 5), 0);
        Kit.due("newline is no letter", Kit.feed(b, "A\nB?C").mount(0, 0), 1);
        Kit.due("spaces", b.block(0, 0, 0), letters("A B C"));
        Kit.due("the tape stands", b.unit(0), 0);
        Kit.due("most", Kit.feed(b, "M".repeat(8180)).mount(4, 40), 17);
        Kit.due("the last block", b.block(4, 56, 35), letters("MMMMM"));
        Kit.due("behind", b.block(4, 56, 36), 0);
    }

    private static void blocks() {
        SixBitBoard b = new SixBitBoard();
        int[][] none = {{-1, 0, 0}, {16, 0, 0}, {0, -1, 0}, {0, 64, 0}, {0, 0, -1}, {0, 0, 100}, {15, 64, 99},
            {Integer.MAX_VALUE, Integer.MAX_VALUE, Integer.MAX_VALUE}, {Integer.MIN_VALUE, 0, 0}};
        for (int[] k : none) {
            Kit.throwsNone("block " + k[0] + " " + k[1] + " " + k[2], () -> b.block(k[0], k[1], k[2]));
        }
        Kit.assemble(b, "OUT|W(3)", "HLT", "W|CON|-0", "CON|-5", "END|0");
        b.run(9);
        Kit.due("-0", b.block(3, 0, 0), Integer.MIN_VALUE);
        Kit.due("-5", b.block(3, 0, 1), -5);
    }

    private static void tearing() {
        SixBitBoard b = Kit.ran("OUT|0(17)", "OUT|0(18)", "OUT|0(19)", "HLT", "END|0");
        Kit.due("punch", b.unit(17), 1);
        Kit.due("printer", b.unit(18), 1);
        Kit.due("typewriter", b.unit(19), 1);
        b.tear();
        for (int u = 17; u <= 19; u++) {
            Kit.due("all goes", b.unit(u), 0);
            Kit.due("no letter", b.letter(u, 0, 0), -1);
        }
        Kit.assemble(b, "OUT|T(18)", "HLT", "T|ALF|NEW", "ORIG|T+24", "END|0");
        b.run(9);
        Kit.dueLines("a shorter line in its place", b, 18, "NEW");
    }

    private static long letters(String five) {
        long w = 0;
        for (char c : five.toCharArray()) {
            w = w * 64 + LETTERS.indexOf(c);
        }
        return w;
    }
}
