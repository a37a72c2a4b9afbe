/** The sentences of promises 15 to 27 that name an edge or a refused call, one test each. */
public final class EdgeAnswerTest {
    private static final long LEAST = Kit.LEAST;
    private static final int FAR = Integer.MAX_VALUE;
    private static final int BELOW = Integer.MIN_VALUE;

    public static void main(String[] args) {
        mountWords();
        mountZeros();
        mountNone();
        mountTooMany();
        withoutJobs();
        manyJobs();
        accounts();
        accountNone();
        latestDeck();
        summaries();
        summaryNone();
        states();
        registers();
        registerNone();
        counters();
        words();
        wordNone();
        times();
        symbols();
        symbolNone();
        symbolOfError();
        unitLines();
        unitTapes();
        unitReader();
        unitNone();
        letters();
        letterNone();
        blocks();
        blockNone();
        blockAtOnce();
        tear();
        Kit.close();
    }

    private static String job(String card, String body) {
        return card + "\n" + body + "*DATA\n*END\n";
    }

    private static void mountWords() {
        Kit.told("The tape's bytes, as letters, become words (five each, spaces behind the last) of a tape's or disk's blocks from b on");
        for (int size : new int[] {1, 4, 5, 6, 499, 500, 501, 1000, 1001}) {
            SixBitBoard b = new SixBitBoard();
            int blocks = (size + 499) / 500;
            Kit.due(size + " bytes", Kit.feed(b, "B".repeat(size - 1) + "a").mount(15, 64 - blocks), blocks);
            int last = (size - 1) / 5;
            String five = ("B".repeat((size - 1) % 5) + "A    ").substring(0, 5);
            Kit.due("the last word of " + size, b.block(15, 64 - blocks + last / 100, last % 100), Kit.letters(five));
        }
        SixBitBoard b = new SixBitBoard();
        for (int u = 0; u <= 15; u++) {
            Kit.due("unit " + u, Kit.feed(b, "X").mount(u, u), 1);
            Kit.due("its word", b.block(u, u, 0), Kit.letters("X    "));
        }
        Kit.feed(b, "\nA?~").mount(0, 0);
        Kit.due("newline and ? are spaces", b.block(0, 0, 0), Kit.letters(" A ~ "));
        Kit.due("the tape stands where it stood", b.unit(0), 0);
    }

    private static void mountZeros() {
        Kit.told("+0 behind them in the last block: how many blocks");
        SixBitBoard b = new SixBitBoard();
        Kit.feed(b, "Z".repeat(1500)).mount(9, 0);
        Kit.due("one block", Kit.feed(b, "A").mount(9, 1), 1);
        Kit.due("the block ahead stays", b.block(9, 0, 99), Kit.letters("ZZZZZ"));
        Kit.due("the word", b.block(9, 1, 0), Kit.letters("A    "));
        for (int i = 1; i < 100; i++) {
            Kit.due("behind it " + i, b.block(9, 1, i), 0);
        }
        Kit.due("the block behind stays", b.block(9, 2, 0), Kit.letters("ZZZZZ"));
        Kit.due("an empty tape", b.mount(9, 0), 0);
        Kit.due("nothing is changed", b.block(9, 0, 0), Kit.letters("ZZZZZ"));
    }

    private static void mountNone() {
        Kit.told("NONE, changing nothing else, when it is no such unit or block");
        SixBitBoard b = new SixBitBoard();
        for (int u : new int[] {-1, 16, 17, 18, 19, 20, FAR, BELOW}) {
            Kit.due("unit " + u, Kit.feed(b, "A").mount(u, 0), -1);
            Kit.due("unit " + u + ", nothing to mount", b.mount(u, 0), -1);
        }
        for (int k : new int[] {-1, 64, 65, 100, FAR, BELOW}) {
            Kit.due("block " + k, Kit.feed(b, "A").mount(0, k), -1);
            Kit.due("block " + k + ", nothing to mount", b.mount(0, k), -1);
        }
        for (int u = 0; u <= 15; u++) {
            Kit.due("nothing is changed", b.block(u, 0, 0) + b.block(u, 63, 99), 0);
        }
        Kit.due("the tape is used up", b.end(1), false);
    }

    private static void mountTooMany() {
        Kit.told("NONE, or they don't go in");
        SixBitBoard b = new SixBitBoard();
        Kit.due("one too many", Kit.feed(b, "A".repeat(501)).mount(0, 63), -1);
        Kit.due("nothing is changed", b.block(0, 63, 0), 0);
        Kit.due("just in", Kit.feed(b, "A".repeat(500)).mount(0, 63), 1);
        Kit.due("17 blocks from 48", Kit.feed(b, "A".repeat(8180)).mount(1, 48), -1);
        Kit.due("17 blocks from 47", Kit.feed(b, "A".repeat(8180)).mount(1, 47), 17);
    }

    private static void withoutJobs() {
        Kit.told("how many (without any all else stays as it is)");
        SixBitBoard b = Kit.ran("A|ENTA|5", "STA|300", "OUT|0(3)", "HLT", "END|0");
        Kit.feed(b, "CARD").cards();
        for (String deck : new String[] {"", "X\n", "*JOB A 5\n", "*JOB A 5\n*LOAD\n*DATA\n", "*DATA\n*END\n"}) {
            Kit.due("[" + deck + "]", Kit.feed(b, deck).jobs(), 0);
        }
        Kit.due("A", b.register(0), 5);
        Kit.due("memory", b.word(300), 5);
        Kit.due("time", b.time(), 14);
        Kit.due("state", b.state(), 1);
        Kit.due("the tape stands", b.unit(3), 1);
        Kit.due("the reader", b.unit(16), 1);
        Kit.due("the printer", b.unit(18), 0);
        Kit.due("symbol", Kit.symbol(b, "A"), 0);
        Kit.due("listing", b.listing(), 5);
        Kit.due("its letters", Kit.line(b, 18, 0), "0001 +0000 +0001310896 A          ENTA 5");
        Kit.due("no account", b.account(0, 0), -1);
    }

    private static void manyJobs() {
        Kit.told("The tape is a deck whose jobs are done: how many");
        SixBitBoard b = new SixBitBoard();
        Kit.due("409", Kit.feed(b, "*JOB A 0\n*DATA\n*END\n".repeat(409)).jobs(), 409);
        Kit.due("the last", b.account(408, 0), 3);
        Kit.due("no more", b.account(409, 0), -1);
        Kit.due("300 lines", b.unit(18), 300);
        Kit.due("summary", b.summary(), 0);
    }

    private static SixBitBoard five() {
        SixBitBoard b = new SixBitBoard();
        String deck = job("*JOB A 50", Kit.source("NOP|", "HLT|", "END|0")) + job("*JOB B 7", Kit.source("JMP|0", "END|0")) + job("*JOB C 50", Kit.source("NOP|", "JMP|4000", "END|0"))
            + job("*JOB D 50", Kit.source("NOP|", "FIX|")) + job("*JOB E 50", "*LOAD\n     100000000000000\n");
        Kit.due("five jobs", Kit.feed(b, deck).jobs(), 5);
        return b;
    }

    private static void accounts() {
        Kit.told("what 0 how it ended (0 HALT, 1 LIMIT, 2 FAULT, 3 ERROR, 4 CARD), 1 the kind, 2 the counter, line or card, 3 its u, as in its line");
        SixBitBoard b = five();
        int[][] want = {{0, 0, 2, 11}, {1, 0, 0, 7}, {2, 7, 1, 1}, {3, 8, 2, 0}, {4, 0, 2, 0}};
        for (int k = 0; k < 5; k++) {
            for (int what = 0; what < 4; what++) {
                Kit.due("job " + k + " what " + what, b.account(k, what), want[k][what]);
            }
        }
    }

    private static void accountNone() {
        Kit.told("NONE for another job or what");
        SixBitBoard b = five();
        for (int k : new int[] {-1, 5, 6, 512, FAR, BELOW}) {
            Kit.due("job " + k, b.account(k, 0), -1);
        }
        for (int what : new int[] {-1, 4, 5, FAR, BELOW}) {
            Kit.due("what " + what, b.account(0, what), -1);
        }
        Kit.due("no deck", new SixBitBoard().account(0, 0), -1);
    }

    private static void latestDeck() {
        Kit.told("of the latest deck that had one");
        SixBitBoard b = five();
        Kit.feed(b, "NOTHING\n").jobs();
        Kit.due("a deck without a job", b.account(2, 1), 7);
        Kit.assemble(b, "HLT", "END|0");
        Kit.due("assembling", b.account(2, 1), 7);
        Kit.feed(b, job("*JOB A 50", Kit.source("HLT|", "END|0"))).jobs();
        Kit.due("another deck", b.account(0, 3), 10);
        Kit.due("has one job", b.account(1, 0), -1);
    }

    private static void summaries() {
        Kit.told("a line of such a deck: JOBS, then HALT, LIMIT, FAULT, ERROR, CARD, each with a space and four digits behind it and a space, then ten digits, their u in all. That u");
        SixBitBoard b = five();
        b.tear();
        Kit.due("u", b.summary(), 19);
        Kit.dueLines("line", b, 18, "JOBS 0005 HALT 0001 LIMIT 0001 FAULT 0001 ERROR 0001 CARD 0001 0000000019");
        Kit.feed(b, "*JOB A 99999\n*LOAD\n     100000000000039\n     00000\n*DATA\n*END\n" + "*JOB B 99999\n*SAME\n*DATA\n*END\n".repeat(30)).jobs();
        b.tear();
        Kit.due("much u", b.summary(), 31 * 99999);
        Kit.dueLines("line", b, 18, "JOBS 0031 HALT 0000 LIMIT 0031 FAULT 0000 ERROR 0000 CARD 0000 0003099969");
    }

    private static void summaryNone() {
        Kit.told("NONE, and no line, when there was none");
        SixBitBoard b = new SixBitBoard();
        Kit.due("summary", b.summary(), -1);
        Kit.feed(b, "X\n").jobs();
        Kit.due("a deck without a job", b.summary(), -1);
        Kit.due("no line", b.unit(18), 0);
    }

    private static void states() {
        Kit.told("0 it runs, 1 it halted, 2 to 8 it stopped by fault 1 to 7; 9 nothing is there to run (also a job met its limit, or had an error)");
        Kit.due("a new object", new SixBitBoard().state(), 9);
        SixBitBoard b = new SixBitBoard();
        Kit.assemble(b, "NOP", "HLT", "END|0");
        Kit.due("it runs", b.state(), 0);
        b.run(1);
        Kit.due("it runs still", b.state(), 0);
        b.run(1);
        Kit.due("it halted", b.state(), 1);
        String[] faults = {"CON|7(3:3)", "LDA|4000", "LDA|0(6)", "LD1|1", "IN|0(17)", "IN|0(16)", "JMP|4000"};
        for (int k = 0; k < 7; k++) {
            Kit.due(faults[k], Kit.ran(faults[k], "CON|4096", "END|0").state(), k + 2);
            Kit.feed(b, job("*JOB A 50", Kit.source(faults[k], "CON|4096", "END|0"))).jobs();
            Kit.due("a job's " + faults[k], b.state(), k + 2);
        }
        Kit.feed(b, job("*JOB A 50", Kit.source("HLT|", "END|0"))).jobs();
        Kit.due("a job's HALT", b.state(), 1);
        Kit.feed(b, job("*JOB A 5", Kit.source("HLT|", "END|0"))).jobs();
        Kit.due("LIMIT", b.state(), 9);
        Kit.feed(b, job("*JOB A 5", Kit.source("FOO|"))).jobs();
        Kit.due("ERROR", b.state(), 9);
        Kit.feed(b, job("*JOB A 5", "*LOAD\n")).jobs();
        Kit.due("CARD", b.state(), 9);
        Kit.feed(b, "X").cards();
        b.go();
        Kit.due("GO", b.state(), 0);
        Kit.assemble(b, "FOO");
        Kit.due("an error", b.state(), 9);
        Kit.assemble(b, "NOP", "END|0");
        b.errors();
        Kit.due("errors()", b.state(), 9);
    }

    private static void registers() {
        Kit.told("0 A, 1 to 6 Ii, 7 X, 8 J (below 0 when it is such an address): its value (the least int for -0); 9 overflow (1 on), 10 the comparison (-1, 0, 1)");
        SixBitBoard b = Kit.ran("LDA|W", "LDXN|W", "ENT1|4095", "ENN2|4095", "ENN3|0", "ENT4|0", "ENT5|5", "ENN6|6", "INCA|1", "CMPX|W", "HLT", "W|CON|1073741823", "END|0");
        long[] want = {0, 4095, -4095, LEAST, 0, 5, -6, -1073741823, 0, 1, -1, 11};
        for (int k = 0; k <= 11; k++) {
            Kit.due("register " + k, b.register(k), want[k]);
        }
        b = Kit.ran("ENNA|0", "ENNX|0", "ENT1|1", "CMP1|3000", "HLT", "END|0");
        Kit.due("-0 in A", b.register(0), LEAST);
        Kit.due("-0 in X", b.register(7), LEAST);
        Kit.due("greater", b.register(10), 1);
        b = Kit.ran("ORIG|-50", "JMP|*+1", "HLT", "END|-50");
        Kit.due("J below 0", b.register(8), -49);
    }

    private static void registerNone() {
        Kit.told("NoSuchElementException: another");
        SixBitBoard b = new SixBitBoard();
        for (int k : new int[] {-1, 12, 13, 100, FAR, BELOW}) {
            Kit.throwsNone("register " + k, () -> b.register(k));
        }
    }

    private static void counters() {
        Kit.told("11 the instruction counter");
        SixBitBoard b = new SixBitBoard();
        for (int at : new int[] {-3999, -1, 0, 3999}) {
            Kit.assemble(b, "END|" + at);
            Kit.due("start " + at, b.register(11), at);
        }
        b.run(1);
        Kit.due("behind 3999", b.register(11), 4000);
    }

    private static void words() {
        Kit.told("The word at an address: its value, or, for -0, the least int");
        SixBitBoard b = new SixBitBoard();
        Kit.assemble(b, "ORIG|-3999", "CON|-0", "CON|-1", "ORIG|3998", "CON|1073741823", "CON|-1073741823", "END|0");
        Kit.due("-3999", b.word(-3999), LEAST);
        Kit.due("-3998", b.word(-3998), -1);
        Kit.due("3998", b.word(3998), 1073741823);
        Kit.due("3999", b.word(3999), -1073741823);
        Kit.due("+0", b.word(0), 0);
    }

    private static void wordNone() {
        Kit.told("NoSuchElementException: no such address");
        SixBitBoard b = new SixBitBoard();
        for (int a : new int[] {-4000, 4000, 4001, -4001, 7999, FAR, BELOW}) {
            Kit.throwsNone("word " + a, () -> b.word(a));
        }
    }

    private static void times() {
        Kit.told("The time u");
        SixBitBoard b = new SixBitBoard();
        Kit.due("at first", b.time(), 0);
        Kit.feed(b, Kit.source("OUT|0(17)").repeat(300) + Kit.source("JMP|0", "END|0")).assemble();
        for (int k = 0; k < 16; k++) {
            b.run(100000);
        }
        Kit.due("beyond an int", b.time() > FAR, true);
        // of 301 instructions one is JMP, which no OUT waits for: the punch is busy all the time
        long outs = 1600000L - 1600000L / 301;
        Kit.due("1500 for each OUT but the first", b.time(), 1500 * (outs - 1) + 1 + (1600000L % 301 == 0 ? 1 : 0));
    }

    private static void symbols() {
        Kit.told("The value of a symbol (told by the tape, whose bytes are its letters A .. Z and digits; the least int for -0)");
        SixBitBoard b = new SixBitBoard();
        Kit.assemble(b, "A|EQU|-0", "ABCDEFGHIJ|EQU|-1073741823", "0Z9|EQU|1073741823", "JMP|FUT", "E|END|0");
        Kit.due("-0", Kit.symbol(b, "A"), LEAST);
        Kit.due("ten letters", Kit.symbol(b, "ABCDEFGHIJ"), -1073741823);
        Kit.due("digits", Kit.symbol(b, "0Z9"), 1073741823);
        Kit.due("a future one", Kit.symbol(b, "FUT"), 1);
        Kit.due("END's LOC", Kit.symbol(b, "E"), 1);
        b.run(5);
        Kit.due("behind a run", Kit.symbol(b, "E"), 1);
    }

    private static void symbolNone() {
        Kit.told("no others; no local ones; NoSuchElementException: there is none (the tape is used up all the same)");
        SixBitBoard b = new SixBitBoard();
        Kit.assemble(b, "A|EQU|1", "1H|EQU|2", "ABCDEFGHIJ|EQU|3", "JMP|2F", "END|0");
        for (String name : new String[] {"", "a", "A ", " A", "A\n", "\u0000A", "B", "AA", "ABCDEFGHI", "ABCDEFGHIJK", "1H", "1B", "1F", "2F", "2H", "1", "A+", "*", "\u00c1", "abcdefghij"}) {
            Kit.throwsNone("[" + name + "]", () -> Kit.symbol(b, name));
            Kit.due("used up", b.end(1), false);
        }
        Kit.throwsNone("a long tape", () -> Kit.symbol(b, "A".repeat(8000)));
        SixBitBoard all = everySymbol();
        for (int size = 11; size <= 22; size++) {
            for (char last : "0123ABCDEFGHIJKLMNOPQRSTUVWXYZ".toCharArray()) {
                String name = "A".repeat(size - 1) + last;
                Kit.throwsNone(name, () -> Kit.symbol(all, name));
            }
        }
        Kit.due("A", Kit.symbol(b, "A"), 1);
    }

    /** A board with a symbol of each letter, alone and ten times. */
    private static SixBitBoard everySymbol() {
        StringBuilder text = new StringBuilder();
        for (char c = 'A'; c <= 'Z'; c++) {
            text.append(Kit.source(c + "|EQU|1", String.valueOf(c).repeat(10) + "|EQU|2", "00" + c + "|EQU|3"));
        }
        SixBitBoard b = new SixBitBoard();
        Kit.feed(b, text + Kit.source("END|0")).assemble();
        Kit.due("assembled", b.error(), 0);
        return b;
    }

    private static void symbolOfError() {
        Kit.told("in the latest assembling, if it had no error");
        SixBitBoard b = new SixBitBoard();
        Kit.throwsNone("a new object", () -> Kit.symbol(b, "A"));
        Kit.assemble(b, "A|EQU|1", "FOO");
        Kit.throwsNone("an error", () -> Kit.symbol(b, "A"));
        Kit.assemble(b, "A|EQU|1", "B|EQU|2", "END|0");
        Kit.assemble(b, "A|EQU|3", "END|0");
        Kit.due("the latest", Kit.symbol(b, "A"), 3);
        Kit.throwsNone("not an earlier one's", () -> Kit.symbol(b, "B"));
        Kit.feed(b, job("*JOB A 50", Kit.source("C|HLT|", "END|0"))).jobs();
        Kit.due("a job's", Kit.symbol(b, "C"), 0);
        Kit.throwsNone("not what was ahead of it", () -> Kit.symbol(b, "A"));
    }

    private static void unitLines() {
        Kit.told("How many lines 17 punch, 18 printer or 19 typewriter have written (at most 300 each, later ones are lost)");
        for (int u = 17; u <= 19; u++) {
            SixBitBoard b = new SixBitBoard();
            Kit.assemble(b, "OUT|4(" + u + ")", "INC1|1", "ST1|4(4:5)", "JMP|0", "CON|0", "END|0");
            b.run(4 * 299);
            Kit.due("299", b.unit(u), 299);
            b.run(4);
            Kit.due("300", b.unit(u), 300);
            String last = Kit.line(b, u, 299);
            b.run(40);
            Kit.due("300 still", b.unit(u), 300);
            Kit.due("the 300th stays", Kit.line(b, u, 299), last);
            Kit.due("it is the 300th", last, "   D" + Kit.LETTERS.charAt(299 % 64));
            Kit.due("others", b.unit(u == 17 ? 18 : 17), 0);
            b.tear();
            b.run(4);
            Kit.due("behind tear()", b.unit(u), 1);
        }
    }

    private static void unitTapes() {
        Kit.told("of a tape where it stands");
        SixBitBoard b = new SixBitBoard();
        for (int u = 0; u <= 7; u++) {
            Kit.due("at first", b.unit(u), 0);
            Kit.assemble(b, "IOC|" + (8 * u + 8) + "(" + u + ")", "HLT", "END|0");
            b.run(9);
            Kit.due("tape " + u, b.unit(u), 8 * u + 8);
        }
    }

    private static void unitReader() {
        Kit.told("of the reader how many cards are left (of a watched program in NORMAL, until it stops, one with * and those behind it, too)");
        SixBitBoard b = new SixBitBoard();
        Kit.due("none", b.unit(16), 0);
        Kit.feed(b, "A\n*B\nC\n").cards();
        Kit.due("three", b.unit(16), 3);
        Kit.assemble(b, "ORIG|-12", "HLT", "ORIG|-10", "CON|4000", "ORIG|-500", "INT", "ORIG|0", "IN|1000(16)", "NOP", "IN|1000(16)", "END|-500");
        b.run(3);
        Kit.due("in NORMAL", b.unit(16), 2);
        b.run(9);
        Kit.due("stopped", b.state(), 1);
        Kit.due("when it has stopped", b.unit(16), 2);
    }

    private static void unitNone() {
        Kit.told("NONE for others");
        SixBitBoard b = new SixBitBoard();
        for (int u : new int[] {-1, 8, 9, 10, 11, 12, 13, 14, 15, 20, 21, FAR, BELOW}) {
            Kit.due("unit " + u, b.unit(u), -1);
        }
    }

    private static void letters() {
        Kit.told("Letter i of line k of 17, 18, 19, as a character's code (65 for A)");
        SixBitBoard b = Kit.ran("OUT|W(17)", "OUT|W(18)", "OUT|W(19)", "HLT", "W|ALF|A Z", "END|0");
        for (int u = 17; u <= 19; u++) {
            Kit.due("A", b.letter(u, 0, 0), 65);
            Kit.due("space", b.letter(u, 0, 1), 32);
            Kit.due("Z", b.letter(u, 0, 2), 90);
            Kit.due("behind its end", b.letter(u, 0, 3), -1);
        }
    }

    private static void letterNone() {
        Kit.told("NONE when there is none");
        SixBitBoard b = Kit.ran("OUT|W(17)", "OUT|W(18)", "OUT|W(19)", "HLT", "W|ALF|A", "END|0");
        for (int u : new int[] {-1, 0, 8, 15, 16, 20, FAR, BELOW}) {
            Kit.due("unit " + u, b.letter(u, 0, 0), -1);
        }
        for (int u = 17; u <= 19; u++) {
            for (int k : new int[] {-1, 1, 299, 300, FAR, BELOW}) {
                Kit.due("line " + k, b.letter(u, k, 0), -1);
            }
            for (int i : new int[] {-1, 1, 119, 120, FAR, BELOW}) {
                Kit.due("letter " + i, b.letter(u, 0, i), -1);
            }
        }
        Kit.due("nothing written", new SixBitBoard().letter(18, 0, 0), -1);
    }

    private static void blocks() {
        Kit.told("Word i of block b of a tape or disk, as in word()");
        SixBitBoard b = Kit.ran("OUT|100(3)", "ENTX|5", "OUT|100(12)", "HLT", "ORIG|100", "CON|-0", "CON|-5", "ORIG|199", "CON|1073741823", "END|0");
        for (int u : new int[] {3, 12}) {
            int k = u == 3 ? 0 : 5;
            Kit.due("-0", b.block(u, k, 0), LEAST);
            Kit.due("-5", b.block(u, k, 1), -5);
            Kit.due("+0", b.block(u, k, 2), 0);
            Kit.due("the last", b.block(u, k, 99), 1073741823);
        }
    }

    private static void blockNone() {
        Kit.told("NoSuchElementException: there is none");
        SixBitBoard b = new SixBitBoard();
        Kit.feed(b, "A").mount(0, 0);
        for (int u : new int[] {-1, 16, 17, 18, 19, 20, FAR, BELOW}) {
            Kit.throwsNone("unit " + u, () -> b.block(u, 0, 0));
        }
        for (int u = 0; u <= 15; u += 15) {
            int unit = u;
            for (int k : new int[] {-1, 64, 65, FAR, BELOW}) {
                Kit.throwsNone("block " + k, () -> b.block(unit, k, 0));
            }
            for (int i : new int[] {-1, 100, 101, FAR, BELOW}) {
                Kit.throwsNone("word " + i, () -> b.block(unit, 0, i));
            }
        }
    }

    private static void blockAtOnce() {
        Kit.told("what an OUT takes is there as soon as it begins");
        SixBitBoard b = new SixBitBoard();
        Kit.assemble(b, "OUT|3(0)", "OUT|3(8)", "JMP|*", "CON|7", "END|0");
        b.run(1);
        Kit.due("a tape's", b.block(0, 0, 0), 7);
        b.run(1);
        Kit.due("a disk's", b.block(8, 0, 0), 7);
        Kit.due("the units are busy", b.time(), 2);
    }

    private static void tear() {
        Kit.told("All that 17, 18 and 19 have written goes");
        SixBitBoard b = Kit.ran("OUT|W(17)", "OUT|W(18)", "OUT|W(19)", "OUT|0(3)", "HLT", "W|ALF|LINE", "END|0");
        Kit.feed(b, "CARD").cards();
        b.tear();
        for (int u = 17; u <= 19; u++) {
            Kit.due("lines of " + u, b.unit(u), 0);
            Kit.due("letters of " + u, b.letter(u, 0, 0), -1);
        }
        Kit.due("the tape stands", b.unit(3), 1);
        Kit.due("the card stays", b.unit(16), 1);
        Kit.due("the words stay", b.word(5), Kit.letters("LINE "));
        b.tear();
        Kit.due("again", b.unit(18), 0);
        b.list();
        Kit.due("new lines", b.unit(18), 6);
    }
}
