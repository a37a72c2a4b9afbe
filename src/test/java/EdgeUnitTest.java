/** The sentences of the terms UNITS and LETTERS that name an edge, one test each. */
public final class EdgeUnitTest {
    private static final int[] BUSY = {500, 500, 500, 500, 500, 500, 500, 500, 400, 400, 400, 400, 400, 400, 400, 400, 1000, 1500, 750, 900};

    public static void main(String[] args) {
        mediaAtFirst();
        wordsRead();
        wordsWritten();
        linesWritten();
        busyTimes();
        waitingTimes();
        readWhenItBegins();
        liesThereWhenDone();
        takenWhenItBegins();
        inOrder();
        stoppedAll();
        stoppedAtOnce();
        tapesStand();
        tapeTurns();
        turnIsBusy();
        diskBlocks();
        diskTurns();
        starCards();
        starCardsAreThere();
        formFeed();
        lettersRead();
        lettersWritten();
        blanks();
        Kit.close();
    }

    private static void mediaAtFirst() {
        Kit.told("tapes 0 to 7 and disks 8 to 15, blocks of 100 words, 64 each, all +0 at first");
        SixBitBoard b = new SixBitBoard();
        for (int u = 0; u <= 15; u++) {
            for (int k = 0; k <= 63; k += 21) {
                Kit.due("unit " + u + " block " + k, b.block(u, k, 0), 0);
                Kit.due("unit " + u + " block " + k + ", last", b.block(u, k, 99), 0);
            }
        }
        SixBitBoard c = Kit.ran("ENTX|63", "OUT|0(15)", "IOC|63(7)", "OUT|0(7)", "HLT", "ORIG|99", "CON|7", "CON|8", "END|0");
        Kit.due("the last word of a disk", c.block(15, 63, 99), 7);
        Kit.due("the last word of a tape", c.block(7, 63, 99), 7);
        Kit.due("it has 64 blocks", c.unit(7), 64);
    }

    /** A board whose tape or disk u has letters in two blocks, or whose reader has two cards. */
    private static SixBitBoard full(int u) {
        SixBitBoard b = new SixBitBoard();
        if (u == 16) {
            Kit.feed(b, "A".repeat(80) + "\n" + "B".repeat(80) + "\n").cards();
        } else {
            Kit.feed(b, "A".repeat(500) + "B".repeat(500)).mount(u, 0);
        }
        return b;
    }

    private static void wordsRead() {
        Kit.told("blocks of 100 words; 16 reader (16 words)");
        for (int u = 0; u <= 16; u++) {
            int count = u == 16 ? 16 : 100;
            SixBitBoard b = full(u);
            Kit.assemble(b, "IN|1000(" + u + ")", "HLT", "ORIG|999", "CON|-1", "ORIG|" + (1000 + count), "CON|-2", "END|0");
            b.run(9);
            Kit.due("ahead of " + u, b.word(999), -1);
            Kit.due("the first of " + u, b.word(1000), Kit.letters("AAAAA"));
            Kit.due("the last of " + u, b.word(1000 + count - 1), Kit.letters("AAAAA"));
            Kit.due("behind " + u, b.word(1000 + count), -2);
        }
        SixBitBoard b = full(8);
        Kit.assemble(b, "ORIG|-3899", "CON|-5", "ORIG|-9", "IN|-3999(8)", "HLT", "END|-9");
        b.run(9);
        Kit.due("to the first word of memory", b.word(-3999), Kit.letters("AAAAA"));
        Kit.due("100 words from there", b.word(-3900), Kit.letters("AAAAA"));
        Kit.due("behind them", b.word(-3899), -5);
    }

    private static void wordsWritten() {
        Kit.told("OUT of blocks: 100 words");
        for (int u = 0; u <= 15; u++) {
            SixBitBoard b = full(u);
            Kit.assemble(b, "OUT|1000(" + u + ")", "HLT", "ORIG|999", "CON|-1", "CON|-2", "ORIG|1099", "CON|-3", "CON|-4", "END|0");
            b.run(9);
            Kit.due("the first of " + u, b.block(u, 0, 0), -2);
            Kit.due("between", b.block(u, 0, 1), 0);
            Kit.due("the last of " + u, b.block(u, 0, 99), -3);
            Kit.due("the next block of " + u, b.block(u, 1, 0), Kit.letters("BBBBB"));
        }
        SixBitBoard b = Kit.ran("ORIG|-3999", "CON|-5", "ORIG|-9", "OUT|-3999(8)", "OUT|-3999(18)", "HLT", "END|-9");
        Kit.due("from the first word of memory", b.block(8, 0, 0), -5);
        Kit.dueLines("a line from there", b, 18, "    E");
    }

    private static void linesWritten() {
        Kit.told("17 punch (16 words), 18 printer (24 words), 19 typewriter (14 words)");
        int[] words = {16, 24, 14};
        for (int k = 0; k < 3; k++) {
            SixBitBoard b = new SixBitBoard();
            StringBuilder text = new StringBuilder(Kit.source("OUT|9(" + (17 + k) + ")", "HLT", "ORIG|8"));
            for (int w = 0; w < 27; w++) {
                text.append(Kit.source("ALF|" + (char) ('A' + w % 26) + "234" + (char) ('A' + w % 26)));
            }
            Kit.feed(b, text + Kit.source("END|0")).assemble();
            b.run(9);
            StringBuilder want = new StringBuilder();
            for (int w = 1; w <= words[k]; w++) {
                want.append((char) ('A' + w)).append("234").append((char) ('A' + w));
            }
            Kit.dueLines("unit " + (17 + k), b, 17 + k, want.toString());
            Kit.due("no letter behind it", b.letter(17 + k, 0, 5 * words[k]), -1);
            Kit.due("the last letter", b.letter(17 + k, 0, 5 * words[k] - 1), 'A' + words[k]);
        }
    }

    private static void busyTimes() {
        Kit.told("the unit is busy for: tapes 500, disks 400, reader 1000, punch 1500, printer 750, typewriter 900; then it is done");
        for (int u = 0; u <= 19; u++) {
            SixBitBoard b = u <= 16 ? full(u) : new SixBitBoard();
            Kit.assemble(b, (u == 16 ? "IN" : "OUT") + "|1000(" + u + ")", "JBUS|1(" + u + ")", "END|0");
            // begun at 0: JBUS jumps at 1, 2 .. up to the last u that it is busy
            Kit.due("unit " + u, b.run(BUSY[u]), BUSY[u]);
            Kit.due("busy at " + (BUSY[u] - 1), b.register(11), 1);
            b.run(1);
            Kit.due("free at " + BUSY[u], b.register(11), 2);
        }
    }

    private static void waitingTimes() {
        Kit.told("An operation begins when the unit is free (time goes on till then)");
        for (int u = 0; u <= 19; u++) {
            String op = (u == 16 ? "IN" : "OUT") + "|1000(" + u + ")";
            SixBitBoard b = u <= 16 ? full(u) : new SixBitBoard();
            Kit.assemble(b, op, op, "NOP", "JBUS|3(" + u + ")", "END|0");
            b.run(1);
            Kit.due("the first does not wait", b.time(), 1);
            b.run(1);
            Kit.due("the second waits for unit " + u, b.time(), BUSY[u] + 1);
            // NOP, then JBUS up to the last u that it is busy
            b.run(BUSY[u] - 1);
            Kit.due("busy from where it began", b.register(11), 3);
            b.run(1);
            Kit.due("up to its end", b.register(11), 4);
        }
    }

    private static void readWhenItBegins() {
        Kit.told("IN: the words are read when it begins");
        SixBitBoard b = full(9);
        Kit.assemble(b, "IN|1000(9)", "JBUS|1(9)", "HLT", "END|0");
        b.run(5);
        Kit.feed(b, "Z".repeat(500)).mount(9, 0);
        b.run(1000);
        Kit.due("not what is mounted behind that", b.word(1000), Kit.letters("AAAAA"));
        b = full(16);
        Kit.assemble(b, "IN|1000(16)", "JBUS|1(16)", "HLT", "END|0");
        b.run(1);
        Kit.due("the card is gone from the reader", b.unit(16), 1);
        b = full(3);
        Kit.assemble(b, "IN|1000(3)", "JBUS|1(3)", "HLT", "END|0");
        b.run(1);
        Kit.due("the tape has gone one on", b.unit(3), 1);
    }

    private static void liesThereWhenDone() {
        Kit.told("and lie in memory at M when it is done");
        for (int u = 0; u <= 16; u++) {
            SixBitBoard b = full(u);
            Kit.assemble(b, "IN|1000(" + u + ")", "JMP|1", "END|0");
            b.run(BUSY[u] - 1);
            Kit.due("time", b.time(), BUSY[u] - 1);
            Kit.due("not yet at " + b.time(), b.word(1000), 0);
            b.run(1);
            Kit.due("there at " + b.time(), b.word(1000), Kit.letters("AAAAA"));
        }
        SixBitBoard b = full(8);
        Kit.assemble(b, "IN|1000(8)", "ENTA|5", "STA|1000", "LDX|1000", "JBUS|4(8)", "LDA|1000", "HLT", "END|0");
        b.run(1000);
        Kit.due("a store ahead of that is there till then", b.register(7), 5);
        Kit.due("and gone then", b.register(0), Kit.letters("AAAAA"));
    }

    private static void takenWhenItBegins() {
        Kit.told("OUT takes them from memory when it begins (what is done by then lies there)");
        SixBitBoard b = new SixBitBoard();
        Kit.assemble(b, "OUT|1000(18)", "STZ|1000", "HLT", "ORIG|1000", "ALF|EARLY", "END|0");
        b.run(9);
        Kit.dueLines("not what is stored behind that", b, 18, "EARLY");
        b = full(8);
        // the printer is busy till 750; the disk is done at 401
        Kit.assemble(b, "OUT|2000(18)", "IN|1000(8)", "OUT|1000(18)", "HLT", "END|0");
        b.run(9);
        Kit.due("what came while it waited", b.letter(18, 1, 0), 'A');
        b = full(8);
        // the typewriter is busy till 900, the disk from 502 to 902: one u too late
        Kit.assemble(b, "OUT|2000(19)", "ENT1|3000", "MOVE|2000(63)", "MOVE|2000(63)", "MOVE|2000(63)", "MOVE|2000(59)", "IN|1000(8)", "OUT|1000(19)", "HLT", "END|0");
        b.run(6);
        Kit.due("time", b.time(), 502);
        b.run(9);
        Kit.dueLines("what came behind that", b, 19, "", "");
        b = full(8);
        // the disk from 500 to 900: just by then
        Kit.assemble(b, "OUT|2000(19)", "ENT1|3000", "MOVE|2000(63)", "MOVE|2000(63)", "MOVE|2000(63)", "MOVE|2000(58)", "IN|1000(8)", "OUT|1000(19)", "HLT", "END|0");
        b.run(9);
        Kit.due("what came just then", b.letter(19, 1, 0), 'A');
    }

    private static void inOrder() {
        Kit.told("of several, in the order of their ends, of one time of their beginnings");
        SixBitBoard b = full(8);
        Kit.feed(b, "T".repeat(500)).mount(0, 0);
        // the tape from 0 to 500, the disk from 99 to 499, 100 to 500, 101 to 501
        for (int late = 0; late <= 2; late++) {
            Kit.assemble(b, "IOC|0(0)", "JBUS|1(0)", "HLT", "END|0");
            b.run(1000);
            String nops = Kit.source("NOP").repeat(late);
            Kit.feed(b, Kit.source("IN|1000(0)", "ENT1|2000", "MOVE|3000(48)") + nops + Kit.source("IN|1000(8)", "NOP", "HLT", "END|0")).assemble();
            b.run(100);
            Kit.due("the disk begins at " + (99 + late), b.time(), 99 + late + 12);
            Kit.due("which is the last", b.word(1000), late == 0 ? Kit.letters("TTTTT") : Kit.letters("AAAAA"));
        }
    }

    private static void stoppedAll() {
        Kit.told("when the machine stops all that began is done (u stays)");
        String[] stops = {"HLT", "LDA|4000", "CON|7(3:3)", "JMP|4000"};
        for (String stop : stops) {
            SixBitBoard b = full(16);
            Kit.assemble(b, "IN|1000(16)", stop, "END|0");
            b.run(9);
            Kit.due(stop + ", state", b.state() != 0, true);
            Kit.due(stop, b.word(1000), Kit.letters("AAAAA"));
            Kit.due(stop + ", u stays", b.time(), stop.equals("HLT") ? 11 : 1);
        }
    }

    /** All units that read at once: each brings its words to a place of its own. */
    private static void stoppedAtOnce() {
        SixBitBoard b = new SixBitBoard();
        StringBuilder text = new StringBuilder(Kit.source("ORIG|3000"));
        for (int u = 0; u <= 15; u++) {
            Kit.feed(b, "" + (char) ('A' + u)).mount(u, 0);
            text.append(Kit.source("IN|" + (100 * u) + "(" + u + ")"));
        }
        Kit.feed(b, "Q").cards();
        Kit.feed(b, text + Kit.source("IN|1600(16)", "HLT", "END|3000")).assemble();
        b.run(100);
        Kit.due("u", b.time(), 17 + 10);
        for (int u = 0; u <= 16; u++) {
            Kit.due("unit " + u, b.word(100 * u), Kit.letters((char) ('A' + u) + "    "));
        }
    }

    private static void tapesStand() {
        Kit.told("Tapes stand at a block (0 at first): IN and OUT take it and go one on (at 64: fault 6)");
        for (int u = 0; u <= 7; u++) {
            SixBitBoard b = full(u);
            Kit.due("0 at first", b.unit(u), 0);
            Kit.assemble(b, "IN|1000(" + u + ")", "IN|1100(" + u + ")", "OUT|1000(" + u + ")", "HLT", "END|0");
            b.run(9);
            Kit.due("three on", b.unit(u), 3);
            Kit.due("the first block", b.word(1000), Kit.letters("AAAAA"));
            Kit.due("the second block", b.word(1100), Kit.letters("BBBBB"));
            Kit.due("the third block", b.block(u, 2, 0), Kit.letters("AAAAA"));
            Kit.assemble(b, "IOC|60(" + u + ")", "OUT|1000(" + u + ")", "OUT|1000(" + u + ")", "END|0");
            Kit.due("up to 63", b.run(9), 2);
            Kit.due("at 64", b.unit(u), 64);
            Kit.due("fault 6", b.state(), 7);
        }
    }

    private static void tapeTurns() {
        Kit.told("IOC: M 0 to the beginning; else so many blocks on or back (it stops at 0 and 64)");
        int[] moves = {63, 1, 1, 4095, -1, -62, -1, -1, -4095, 64, -64, 65, -65, 5, 0, 7, -8, 30, 33, 1};
        int[] at = {63, 64, 64, 64, 63, 1, 0, 0, 0, 64, 0, 64, 0, 5, 0, 7, 0, 30, 63, 64};
        SixBitBoard b = new SixBitBoard();
        for (int k = 0; k < moves.length; k++) {
            Kit.assemble(b, "IOC|" + moves[k] + "(4)", "HLT", "END|0");
            b.run(9);
            Kit.due("IOC " + moves[k], b.unit(4), at[k]);
            Kit.due("no fault", b.state(), 1);
        }
        Kit.assemble(b, "ENT1|4095", "IOC|4095,1(4)", "ENN1|4095", "IOC|-4095,1(5)", "HLT", "END|0");
        b.run(9);
        Kit.due("8190 on", b.unit(4), 64);
        Kit.due("8190 back", b.unit(5), 0);
        Kit.assemble(b, "ENN1|5", "IOC|5,1(4)", "HLT", "END|0");
        b.run(9);
        Kit.due("5 - 5 is 0: to the beginning", b.unit(4), 0);
        Kit.due("other tapes stay", b.unit(3), 0);
    }

    private static void turnIsBusy() {
        Kit.told("IOC's M is no address; the unit is busy as by IN and OUT");
        for (int u : new int[] {0, 7, 8, 15, 18}) {
            SixBitBoard b = new SixBitBoard();
            Kit.assemble(b, "IOC|0(" + u + ")", "JBUS|1(" + u + ")", "END|0");
            b.run(BUSY[u]);
            Kit.due("IOC " + u + " busy at " + (BUSY[u] - 1), b.register(11), 1);
            b.run(1);
            Kit.due("IOC " + u + " free at " + BUSY[u], b.register(11), 2);
        }
        Kit.due("M 4095", Kit.ran("IOC|4095(0)", "HLT", "END|0").state(), 1);
        Kit.due("M -4095", Kit.ran("IOC|-4095(0)", "HLT", "END|0").state(), 1);
        SixBitBoard b = new SixBitBoard();
        Kit.assemble(b, "OUT|0(0)", "IOC|1(0)", "END|0");
        b.run(2);
        Kit.due("it waits, too", b.time(), 501);
    }

    private static void diskBlocks() {
        Kit.told("Disks: the block is X (its value, 0 .. 63, else fault 6)");
        for (int u = 8; u <= 15; u++) {
            SixBitBoard b = Kit.ran("ENTX|63", "OUT|W(" + u + ")", "ENNX|0", "OUT|V(" + u + ")", "ENTX|63", "IN|1000(" + u + ")", "HLT", "W|CON|7", "V|CON|8", "END|0");
            Kit.due("block 63 of " + u, b.block(u, 63, 0), 7);
            Kit.due("block -0 of " + u, b.block(u, 0, 0), 8);
            Kit.due("read again", b.word(1000), 7);
            Kit.due("64", Kit.ran("ENTX|64", "OUT|0(" + u + ")", "HLT", "END|0").state(), 7);
            Kit.due("-1", Kit.ran("ENNX|1", "IN|0(" + u + ")", "HLT", "END|0").state(), 7);
        }
    }

    private static void diskTurns() {
        Kit.told("for IOC too (which moves nothing; M must be 0, else fault 5)");
        Kit.due("64", Kit.ran("ENTX|64", "IOC|0(8)", "HLT", "END|0").state(), 7);
        Kit.due("63", Kit.ran("ENTX|63", "IOC|0(8)", "HLT", "END|0").state(), 1);
        Kit.due("-0", Kit.ran("IOC|-0(8)", "HLT", "END|0").state(), 1);
        Kit.due("M 1", Kit.ran("IOC|1(8)", "HLT", "END|0").state(), 6);
        Kit.due("M -1", Kit.ran("IOC|-1(8)", "HLT", "END|0").state(), 6);
        Kit.due("M 5 - 5", Kit.ran("ENN1|5", "IOC|5,1(8)", "HLT", "END|0").state(), 1);
        SixBitBoard b = full(8);
        Kit.assemble(b, "IOC|0(8)", "IN|1000(8)", "HLT", "END|0");
        b.run(9);
        Kit.due("nothing is moved", b.word(1000), Kit.letters("AAAAA"));
    }

    private static void starCards() {
        Kit.told("to a watched program in NORMAL a card with * in column 1, and what is behind it, is not there");
        SixBitBoard b = new SixBitBoard();
        Kit.feed(b, "A*\n*B\nC\n").cards();
        Kit.assemble(b, "ORIG|-12", "HLT", "ORIG|-10", "CON|5000", "ORIG|-500", "INT", "ORIG|0", "IN|1000(16)", "IN|1000(16)", "END|-500");
        b.run(100);
        Kit.due("fault 6 at the second", b.word(-11), 6);
        Kit.due("counter", b.word(-1), 1);
        Kit.due("* in column 2 is nothing", b.word(1000), Kit.letters("A*   "));
        Kit.due("two are left", b.unit(16), 2);
    }

    private static void starCardsAreThere() {
        Kit.told("to a watched program in NORMAL (to others it is there)");
        SixBitBoard b = new SixBitBoard();
        Kit.feed(b, "*A\nB\n").cards();
        Kit.assemble(b, "IN|1000(16)", "IN|1016(16)", "HLT", "END|0");
        b.run(9);
        Kit.due("one that is not watched", b.word(1000), Kit.letters("*A   "));
        Kit.due("and the card behind it", b.word(1016), Kit.letters("B    "));
        Kit.feed(b, "*A\nB\n").cards();
        Kit.assemble(b, "ORIG|-500", "IN|1000(16)", "IN|1016(16)", "HLT", "END|-500");
        b.run(9);
        Kit.due("one in CONTROL", b.word(1000), Kit.letters("*A   "));
        Kit.due("and behind it", b.word(1016), Kit.letters("B    "));
        Kit.feed(b, "*A\nB\n").cards();
        Kit.due("GO", b.go(), true);
        Kit.due("the GO button", b.word(0), Kit.letters("*A   "));
    }

    private static void formFeed() {
        Kit.told("IOC: printer alone, M 0 (else, and of the others, fault 5): a line that is a form feed (letter 12)");
        SixBitBoard b = Kit.ran("IOC|0(18)", "IOC|-0(18)", "HLT", "END|0");
        Kit.due("two lines", b.unit(18), 2);
        Kit.due("letter 12", b.letter(18, 0, 0), 12);
        Kit.due("alone", b.letter(18, 0, 1), -1);
        for (String m : new String[] {"1", "-1", "4095", "12"}) {
            Kit.due("M " + m, Kit.ran("IOC|" + m + "(18)", "HLT", "END|0").state(), 6);
        }
        for (int u : new int[] {16, 17, 19}) {
            b = Kit.ran("IOC|0(" + u + ")", "HLT", "END|0");
            Kit.due("IOC of " + u, b.state(), 6);
            Kit.due("no line of " + u, b.unit(u), 0);
        }
    }

    private static void lettersRead() {
        Kit.told("what is none of these (small letters are read as great ones) is read as space");
        for (int c = 0; c <= 255; c++) {
            SixBitBoard b = new SixBitBoard();
            char great = Character.toUpperCase((char) c);
            int want = Math.max(c < 128 ? Kit.LETTERS.indexOf(great) : 0, 0);
            Kit.feed(b, "X" + (char) c).mount(0, 0);
            Kit.due("byte " + c, b.block(0, 0, 0), Kit.bytes(27, want, 0, 0, 0));
            if (c != 10) {
                Kit.feed(b, (char) c + "X").cards();
                b.go();
                Kit.due("byte " + c + " on a card", b.word(0), Kit.bytes(want, 27, 0, 0, 0));
            }
        }
    }

    private static void lettersWritten() {
        Kit.told("bytes 0 to 55 are, in this order; other bytes are written ?");
        for (int code = 0; code <= 63; code++) {
            SixBitBoard b = Kit.ran("OUT|W(18)", "HLT", "W|CON|" + code + "(1:1),1(2:2)", "END|0");
            Kit.due("byte " + code, b.letter(18, 0, 0), code < 56 ? Kit.LETTERS.charAt(code) : '?');
        }
    }

    private static void blanks() {
        Kit.told("Blanks at a line's end are left out");
        SixBitBoard b = Kit.ran("OUT|W(17)", "OUT|W(18)", "OUT|W(19)", "OUT|1000(17)", "OUT|V(18)", "HLT", "W|ALF| A B", "V|CON|56(1:1)", "END|0");
        for (int u = 17; u <= 19; u++) {
            Kit.due("space ahead, unit " + u, b.letter(u, 0, 0), ' ');
            Kit.due("A", b.letter(u, 0, 1), 'A');
            Kit.due("space within", b.letter(u, 0, 2), ' ');
            Kit.due("B", b.letter(u, 0, 3), 'B');
        }
        Kit.due("a line of spaces is one", b.unit(17), 2);
        Kit.due("without letters", b.letter(17, 1, 0), -1);
        Kit.due("? is no blank", b.letter(18, 1, 0), '?');
        Kit.due("behind ?", b.letter(18, 1, 1), -1);
    }
}
