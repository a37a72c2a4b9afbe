/** The sentences of promises 1 to 14 that name an edge or a refused call, one test each. */
public final class EdgePromiseTest {
    public static void main(String[] args) {
        newObject();
        feedBytes();
        feedTooMany();
        endTooMany();
        emptyThen();
        asAtFirst();
        unitsStay();
        putTwice();
        errorLine();
        errorsGoOn();
        errorsAtEnd();
        errorLetters();
        errorsLeaveNothing();
        errorKind();
        cardLines();
        cardLimit();
        runNumbers();
        runWhileItRuns();
        runInterrupts();
        goCard();
        goWithoutCard();
        deckCards();
        deckStart();
        listLines();
        listNames();
        listingLines();
        nameOrder();
        nameLines();
        traceNumbers();
        traceLines();
        traceTime();
        notAssembled();
        Kit.close();
    }

    private static SixBitBoard assembled(String... lines) {
        SixBitBoard b = new SixBitBoard();
        Kit.assemble(b, lines);
        return b;
    }

    private static void newObject() {
        Kit.told("Memory +0, all registers +0, off, equal; nothing on units, no deck; the tape is empty");
        SixBitBoard b = new SixBitBoard();
        for (int k = 0; k <= 11; k++) {
            Kit.due("register " + k, b.register(k), 0);
        }
        for (int a = -3999; a <= 3999; a += 31) {
            Kit.due("word " + a, b.word(a), 0);
        }
        for (int u = 16; u <= 19; u++) {
            Kit.due("unit " + u, b.unit(u), 0);
        }
        Kit.due("state", b.state(), 9);
        Kit.due("time", b.time(), 0);
        Kit.due("error", b.error(), 0);
        Kit.due("account", b.account(0, 0), -1);
        Kit.due("summary", b.summary(), -1);
        Kit.due("the tape", b.end(1), false);
        Kit.due("end(0)", b.end(0), true);
    }

    private static void feedBytes() {
        Kit.told("Appends twenty bytes to the tape, of each number the highest first");
        SixBitBoard b = new SixBitBoard();
        Kit.due("feed", b.feed(0x41424344, 0x45464748, 0x494B4C4D, 0x4E4F5051, 0x52535455), true);
        Kit.due("twenty", b.end(21), false);
        Kit.due("twenty", b.end(20), true);
        Kit.due("more", b.feed(0x5A414141, 0, 0, 0, 0), true);
        Kit.due("forty", b.end(41), false);
        b.end(21);
        Kit.due("mount", b.mount(0, 0), 1);
        Kit.due("ABCDE", b.block(0, 0, 0), Kit.letters("ABCDE"));
        Kit.due("FGHIK", b.block(0, 0, 1), Kit.letters("FGHIK"));
        Kit.due("LMNOP", b.block(0, 0, 2), Kit.letters("LMNOP"));
        Kit.due("QRSTU", b.block(0, 0, 3), Kit.letters("QRSTU"));
        Kit.due("Z", b.block(0, 0, 4), Kit.letters("Z    "));
        b.feed(0xC1FF8041, -1, -1, -1, -1);
        b.end(4);
        b.mount(0, 0);
        Kit.due("numbers below 0", b.block(0, 0, 0), Kit.letters("   A "));
    }

    private static void feedTooMany() {
        Kit.told("false, changing nothing, when it would have more than 8192");
        SixBitBoard b = new SixBitBoard();
        for (int k = 0; k < 409; k++) {
            b.feed(0x41414141, 0x41414141, 0x41414141, 0x41414141, 0x41414141);
        }
        Kit.due("8200", b.feed(0x42424242, 0x42424242, 0x42424242, 0x42424242, 0x42424242), false);
        Kit.due("8180 still", b.end(8181), false);
        b.end(8173);
        Kit.due("8193", b.feed(0x42424242, 0, 0, 0, 0), false);
        b.end(8172);
        Kit.due("8192", b.feed(0x43434343, 0x43434343, 0x43434343, 0x43434343, 0x43434343), true);
        Kit.due("8212", b.feed(0x42424242, 0, 0, 0, 0), false);
        Kit.due("8192 still", b.end(8193), false);
        Kit.due("blocks", b.mount(0, 0), 17);
        Kit.due("the last of A", b.block(0, 16, 33), Kit.letters("AAAAA"));
        Kit.due("A, then C", b.block(0, 16, 34), Kit.letters("AACCC"));
        Kit.due("C up to byte 8192", b.block(0, 16, 38), Kit.letters("CC   "));
    }

    private static void endTooMany() {
        Kit.told("false, changing nothing, when it has not so many, or n is below 0");
        SixBitBoard b = new SixBitBoard();
        b.feed(0x41424344, 0x41424344, 0, 0, 0);
        for (int n : new int[] {21, -1, Integer.MIN_VALUE, Integer.MAX_VALUE, 8192}) {
            Kit.due("end " + n, b.end(n), false);
        }
        Kit.due("all are there still", b.end(20), true);
        Kit.due("fewer", b.end(3), true);
        Kit.due("those are gone", b.end(4), false);
        Kit.due("the same", b.end(3), true);
        b.mount(0, 0);
        Kit.due("ABC", b.block(0, 0, 0), Kit.letters("ABC  "));
        Kit.due("none", b.end(0), true);
    }

    private static void emptyThen() {
        Kit.told("The tape (empty then, as in all that reads it)");
        for (int call = 0; call < 8; call++) {
            SixBitBoard b = Kit.feed(new SixBitBoard(), call == 7 ? "\n".repeat(401) : "A B\nNOTHING");
            switch (call) {
                case 0 -> b.assemble();
                case 1 -> b.errors();
                case 2, 7 -> b.cards();
                case 3 -> b.mount(0, 0);
                case 4 -> b.mount(-1, 0);
                case 5 -> b.jobs();
                default -> Kit.throwsNone("symbol", b::symbol);
            }
            Kit.due("call " + call, b.end(1), false);
        }
        SixBitBoard b = Kit.feed(new SixBitBoard(), "ABC");
        b.run(5);
        b.go();
        b.deck();
        b.listing();
        b.summary();
        b.tear();
        b.trace(5);
        Kit.due("other calls leave it", b.end(3), true);
    }

    private static void asAtFirst() {
        Kit.told("onto a memory and registers as at first (units stay, free, time 0)");
        SixBitBoard b = Kit.ran("LDA|W", "INCA|9", "ENT1|1", "ENT6|6", "ENTX|7", "CMPX|3000", "JMP|*+1", "STX|300", "HLT", "W|CON|1073741823", "END|0");
        Kit.due("overflow is on", b.register(9), 1);
        Kit.assemble(b, "ORIG|5", "NOP", "END|7");
        for (int k = 0; k <= 10; k++) {
            Kit.due("register " + k, b.register(k), 0);
        }
        Kit.due("counter", b.register(11), 7);
        Kit.due("memory", b.word(300), 0);
        Kit.due("the first words", b.word(0), 0);
        Kit.due("time", b.time(), 0);
        Kit.due("state", b.state(), 0);
    }

    private static void unitsStay() {
        Kit.told("units stay, free, time 0");
        SixBitBoard b = new SixBitBoard();
        Kit.feed(b, "A\nB\n").cards();
        Kit.assemble(b, "IN|1000(16)", "OUT|0(3)", "OUT|0(18)", "OUT|0(9)", "JMP|*", "END|0");
        b.run(9);
        Kit.assemble(b, "OUT|1000(3)", "IN|2000(16)", "OUT|1000(18)", "OUT|1000(9)", "JMP|*", "END|0");
        Kit.due("the tape stands", b.unit(3), 1);
        Kit.due("the reader's cards", b.unit(16), 1);
        Kit.due("the printer's lines", b.unit(18), 1);
        Kit.due("the disk's words", b.block(9, 0, 0) != 0, true);
        b.run(4);
        Kit.due("none waits", b.time(), 4);
        b.run(2000);
        Kit.due("what began ahead of it never comes", b.word(1000), 0);
        Kit.due("what began behind it does", b.word(2000), Kit.letters("B    "));
        for (int u = 0; u <= 15; u++) {
            SixBitBoard c = new SixBitBoard();
            Kit.feed(c, "X").mount(u, 0);
            Kit.assemble(c, "IN|1000(" + u + ")", "JMP|*", "END|0");
            c.run(2);
            Kit.assemble(c, "IN|2000(" + (u == 5 ? 6 : 5) + ")", "HLT", "END|0");
            c.run(9);
            Kit.due("what began on unit " + u, c.word(1000), 0);
        }
    }

    private static void putTwice() {
        Kit.told("how many words there are (one put twice at one place counts twice)");
        SixBitBoard b = new SixBitBoard();
        Kit.due("none", Kit.assemble(b, "END|0"), 0);
        Kit.due("one", Kit.assemble(b, "NOP", "END|0"), 1);
        Kit.due("twice", Kit.assemble(b, "NOP", "ORIG|0", "NOP", "END|0"), 2);
        Kit.due("with what comes", Kit.assemble(b, "LDA|=1=", "ORIG|0", "END|0"), 2);
        Kit.due("below 0, too", Kit.assemble(b, "ORIG|-2", "NOP", "NOP", "NOP", "END|0"), 3);
        Kit.due("list has each place once", b.list(), 1);
    }

    private static void errorLine() {
        Kit.told("-1 - the line of the error, from 1 (state() is 9 then)");
        SixBitBoard b = new SixBitBoard();
        Kit.due("line 1", Kit.assemble(b, "FOO"), -2);
        Kit.due("line 2", Kit.feed(b, "\nA B\n").assemble(), -3);
        Kit.due("line 400", Kit.feed(b, "\n".repeat(399) + "A").assemble(), -401);
        Kit.due("state", b.state(), 9);
        Kit.due("nothing runs", b.run(5), 0);
        Kit.due("most lines", Kit.feed(b, "\n".repeat(8180)).assemble(), -1 - 8181);
        Kit.due("an empty tape", b.assemble(), -2);
    }

    private static void errorsGoOn() {
        Kit.told("a line that has an error is passed over, as a remark");
        SixBitBoard b = new SixBitBoard();
        Kit.due("five", Kit.feed(b, Kit.source("A|NOP|(", "A|NOP|", "A|EQU|1", "ORIG|9999", "B|NOP|", "X|FOO|", "FIX|", "JMP|X", "END|B")).errors(), 5);
        Kit.dueLines("lines", b, 18, "0001 1 A          NOP  (", "0003 3 A          EQU  1", "0004 5            ORIG 9999", "0006 2 X          FOO", "0007 8            FIX");
        SixBitBoard c = new SixBitBoard();
        Kit.due("no LOC, no word, no use of such a line", Kit.feed(c, Kit.source("ORIG|3999", "A|NOP|(", "NOP|Y,7", "NOP|=1=)", "1H|NOP|)", "CON|A", "CON|1B", "NOP|", "END|0")).errors(), 6);
        Kit.due("the last", Kit.line(c, 18, 5), "0007 4            CON  1B");
    }

    private static void errorsAtEnd() {
        Kit.told("but END ends the text when its only errors are of what comes there, 5 and 6");
        String behind = "A B\n";
        String[][] ends = {{"NOP|X", "X|EQU|4096", "END|0", "1"}, {"NOP|=1=", "ORIG|4000", "END|0", "1"}, {"NOP|1F", "1H|EQU|-4096", "END|0", "1"}};
        for (String[] e : ends) {
            SixBitBoard b = new SixBitBoard();
            Kit.due(e[0] + " " + e[1], Kit.feed(b, Kit.source(e[0], e[1], e[2]) + behind).errors(), 1);
            Kit.due("line 3", Kit.line(b, 18, 0).substring(0, 4), "0003");
        }
        for (String end : new String[] {"END|4000", "END|-4000", "END|X", "END|", "END|0)", "E|END|0"}) {
            SixBitBoard b = new SixBitBoard();
            Kit.due(end + " does not", Kit.feed(b, Kit.source("E|NOP|Y", "Y|EQU|4096", end) + behind).errors(), 3);
            Kit.due("line behind it", Kit.line(b, 18, 1), "0004 1 A B");
            Kit.due("no END", Kit.line(b, 18, 2), "0005 7");
        }
        SixBitBoard b = new SixBitBoard();
        Kit.due("a right one", Kit.feed(b, Kit.source("NOP|", "END|0") + behind).errors(), 0);
        Kit.due("a second END", Kit.feed(b, Kit.source("END|X", "END|0") + behind).errors(), 1);
    }

    private static void errorLetters() {
        Kit.told("columns 1 to 4 its number, 6 the error's kind, from 8 on its letters (none of 7)");
        SixBitBoard b = new SixBitBoard();
        Kit.due("two", Kit.feed(b, "\n\na (\n" + " X".repeat(60) + "\n").errors(), 3);
        Kit.dueLines("lines", b, 18, "0003 1 A (", "0004 1 " + " X".repeat(40), "0005 7");
        b = new SixBitBoard();
        Kit.due("an empty text", b.errors(), 1);
        Kit.dueLines("line 1", b, 18, "0001 7");
        b = new SixBitBoard();
        Kit.due("many", Kit.feed(b, "A\n".repeat(310)).errors(), 311);
        Kit.due("300 lines", b.unit(18), 300);
    }

    private static void errorsLeaveNothing() {
        Kit.told("How many; nothing is assembled then, the machine is as behind an error, error() the first one's kind");
        for (boolean right : new boolean[] {true, false}) {
            SixBitBoard b = Kit.ran("ENTA|5", "STA|300", "OUT|0(3)", "OUT|0(19)", "HLT", "END|0");
            Kit.feed(b, "CARD").cards();
            String text = Kit.source("A|NOP|", right ? "HLT|" : "FOO|", right ? "HLT|" : "NOP|X+1", "END|0");
            Kit.due("how many", Kit.feed(b, text).errors(), right ? 0 : 2);
            Kit.due("error", b.error(), right ? 0 : 2);
            Kit.due("state", b.state(), 9);
            Kit.due("run", b.run(9), 0);
            Kit.due("deck", b.deck(), -1);
            Kit.due("list", b.list(), -1);
            Kit.due("listing", b.listing(), -1);
            Kit.due("names", b.names(), -1);
            Kit.throwsNone("symbol", () -> Kit.symbol(b, "A"));
            Kit.due("memory", b.word(0) + b.word(300), 0);
            Kit.due("A", b.register(0), 0);
            Kit.due("counter", b.register(11), 0);
            Kit.due("time", b.time(), 0);
            Kit.due("the tape stands", b.unit(3), 1);
            Kit.due("the card stays", b.unit(16), 1);
            Kit.due("the line stays", b.unit(19), 1);
        }
    }

    private static void errorKind() {
        Kit.told("The kind of the latest assembling's error (also a job's; 0 for a job of object cards); 0 for none");
        String[] text = {"A B\n", Kit.source("FOO|"), Kit.source("A|EQU|1", "A|EQU|1"), Kit.source("CON|X"), Kit.source("CON|1/0"), Kit.source("ORIG|4000", "NOP|"), "", Kit.source("FIX|")};
        SixBitBoard b = new SixBitBoard();
        for (int k = 0; k < text.length; k++) {
            Kit.feed(b, text[k]).assemble();
            Kit.due("kind " + (k + 1), b.error(), k + 1);
        }
        Kit.feed(b, Kit.source("END|0")).errors();
        Kit.due("none of errors()", b.error(), 0);
        Kit.assemble(b, "FOO");
        Kit.assemble(b, "END|0");
        Kit.due("none", b.error(), 0);
        Kit.feed(b, "*JOB A 5\n" + Kit.source("CON|X") + "*DATA\n*END\n").jobs();
        Kit.due("a job's", b.error(), 4);
        Kit.feed(b, "*JOB A 5\n*LOAD\nX\n*DATA\n*END\n").jobs();
        Kit.due("object cards", b.error(), 0);
        Kit.feed(b, "*JOB A 5\nA B\n*DATA\n*END\n*JOB B 5\n*SAME\n*DATA\n*END\n").jobs();
        Kit.due("*SAME behind an error", b.error(), 0);
        Kit.feed(b, "*JOB A 5\n" + Kit.source("END|0") + "*DATA\n*END\n*JOB B 5\nA B\n*DATA\n*END\n").jobs();
        Kit.due("the latest", b.error(), 1);
    }

    private static void cardLines() {
        Kit.told("The tape's lines come behind the reader's cards: how many there are");
        SixBitBoard b = new SixBitBoard();
        Kit.due("an empty tape", b.cards(), 0);
        Kit.due("one without newline", Kit.feed(b, "ONE").cards(), 1);
        Kit.due("one with newline", Kit.feed(b, "TWO\n").cards(), 2);
        Kit.due("a blank one", Kit.feed(b, "\n").cards(), 3);
        Kit.due("two", Kit.feed(b, "FOUR\n" + "F".repeat(90)).cards(), 5);
        String[] first = {"ONE  ", "TWO  ", "     ", "FOUR ", "FFFFF"};
        for (int k = 0; k < 5; k++) {
            Kit.due("card " + k, b.go(), true);
            Kit.due("card " + k, b.word(0), Kit.letters(first[k]));
        }
        Kit.due("80 columns", b.word(15), Kit.letters("FFFFF"));
        Kit.due("no more than that", b.word(16), 0);
        Kit.due("none is left", b.unit(16), 0);
    }

    private static void cardLimit() {
        Kit.told("NONE, and none of them comes, when there would be more than 400");
        SixBitBoard b = new SixBitBoard();
        Kit.due("401", Kit.feed(b, "A\n".repeat(401)).cards(), -1);
        Kit.due("none comes", b.unit(16), 0);
        Kit.due("399", Kit.feed(b, "A\n".repeat(399)).cards(), 399);
        Kit.due("two more", Kit.feed(b, "B\nC\n").cards(), -1);
        Kit.due("399 still", b.unit(16), 399);
        Kit.due("one more", Kit.feed(b, "D\n").cards(), 400);
        Kit.due("another", Kit.feed(b, "E").cards(), -1);
        Kit.due("no line", b.cards(), 400);
        b.go();
        Kit.due("one less", Kit.feed(b, "E").cards(), 400);
        Kit.due("full ones", fullCards().unit(16), 400);
    }

    private static SixBitBoard fullCards() {
        SixBitBoard b = new SixBitBoard();
        for (int k = 0; k < 4; k++) {
            Kit.feed(b, ("Z".repeat(80) + "\n").repeat(100)).cards();
        }
        for (int k = 0; k < 60; k++) {
            b.go();
        }
        Kit.due("60 others", Kit.feed(b, ("Y".repeat(80) + "\n").repeat(60)).cards(), 400);
        return b;
    }

    private static void runNumbers() {
        Kit.told("So many instructions (0 .. 100000) at most; 0 for another number");
        SixBitBoard b = assembled("JMP|0", "END|0");
        for (int n : new int[] {-1, 100001, Integer.MIN_VALUE, Integer.MAX_VALUE, 0}) {
            Kit.due("run " + n, b.run(n), 0);
            Kit.due("nothing is done", b.time(), 0);
        }
        Kit.due("one", b.run(1), 1);
        Kit.due("most", b.run(100000), 100000);
        Kit.due("u", b.time(), 100001);
    }

    private static void runWhileItRuns() {
        Kit.told("while state() is 0: how many were done");
        SixBitBoard b = assembled("NOP", "NOP", "HLT", "END|0");
        Kit.due("up to HLT, HLT too", b.run(100), 3);
        Kit.due("halted", b.run(100), 0);
        b = assembled("NOP", "LDA|4000", "END|0");
        Kit.due("up to the fault", b.run(100), 1);
        Kit.due("stopped", b.run(100), 0);
        Kit.due("u", b.time(), 1);
    }

    private static void runInterrupts() {
        Kit.told("interrupts are none; the next one is looked at only if one more may be done");
        SixBitBoard b = assembled("ORIG|-12", "HLT", "ORIG|-10", "CON|100", "ORIG|-500", "INT", "ORIG|0", "NOP", "CON|7(3:3)", "END|-500");
        Kit.due("INT and NOP", b.run(2), 2);
        Kit.due("the fault is not looked at", b.word(-11), 0);
        Kit.due("run 0", b.run(0), 0);
        Kit.due("nor by run(0)", b.register(11), 1);
        Kit.due("the interrupt and HLT", b.run(1), 1);
        Kit.due("why", b.word(-11), 1);
        Kit.due("halted", b.state(), 1);
        b = assembled("ORIG|-12", "INT", "ORIG|-500", "INT", "END|-500");
        Kit.due("an interrupt ahead of each", b.run(100000), 100000);
        Kit.due("u", b.time(), 200000);
        b = assembled("NOP", "CON|7(3:3)", "END|0");
        Kit.due("one", b.run(1), 1);
        Kit.due("it runs still", b.state(), 0);
    }

    private static void goCard() {
        Kit.told("memory, registers, time as at first, units free (tapes stand); the reader's first card lies as letters at 0 to 15; it runs from 0 (nothing is assembled then, error() stays)");
        SixBitBoard b = Kit.ran("ENTA|5", "ENT2|6", "JMP|*+1", "CMPA|3000", "STA|300", "OUT|0(3)", "OUT|0(18)", "HLT", "END|0");
        Kit.feed(b, "A".repeat(79) + "Z" + "Q\nNEXT\n").cards();
        Kit.due("go", b.go(), true);
        Kit.due("the first letters", b.word(0), Kit.letters("AAAAA"));
        Kit.due("the last letters", b.word(15), Kit.letters("AAAAZ"));
        Kit.due("no more", b.word(16), 0);
        Kit.due("memory", b.word(300), 0);
        for (int k = 0; k <= 11; k++) {
            Kit.due("register " + k, b.register(k), 0);
        }
        Kit.due("time", b.time(), 0);
        Kit.due("state", b.state(), 0);
        Kit.due("the tape stands", b.unit(3), 1);
        Kit.due("one card is left", b.unit(16), 1);
        Kit.due("nothing is assembled", b.deck(), -1);
        Kit.due("error", b.error(), 0);
        Kit.feed(b, "A B\n").assemble();
        Kit.due("error 1", b.error(), 1);
        b.go();
        Kit.due("error() stays", b.error(), 1);
        // " O R7" is OUT 16(19)
        Kit.feed(b, " O R7\n O R7\n").cards();
        b.go();
        b.run(1);
        b.go();
        b.run(1);
        Kit.due("units are free", b.time(), 1);
    }

    private static void goWithoutCard() {
        Kit.told("False, changing nothing, when there is no card");
        SixBitBoard b = Kit.ran("A|ENTA|5", "STA|300", "OUT|0(18)", "HLT", "END|0");
        Kit.due("go", b.go(), false);
        Kit.due("A", b.register(0), 5);
        Kit.due("memory", b.word(300), 5);
        Kit.due("time", b.time(), 14);
        Kit.due("state", b.state(), 1);
        Kit.due("symbol", Kit.symbol(b, "A"), 0);
        Kit.due("list", b.list(), 4);
    }

    private static void deckCards() {
        Kit.told("in order, those of addresses one behind the other together, at most 7 a card; then the transfer card: how many");
        for (int n = 0; n <= 15; n++) {
            SixBitBoard b = new SixBitBoard();
            Kit.feed(b, Kit.source("CON|1").repeat(n) + Kit.source("END|0")).assemble();
            int cards = (n + 6) / 7 + 1;
            Kit.due(n + " words", b.deck(), cards);
            Kit.due(n + " words on the punch", b.unit(17), cards);
            int on = n == 0 ? 0 : (n - 1) % 7 + 1;
            if (n > 0) {
                Kit.due("the last of " + n, Kit.line(b, 17, cards - 2), String.format("     %d%04d", on, n - on) + "0000000001".repeat(on));
            }
            Kit.due("the transfer card", Kit.line(b, 17, cards - 1), "     00000");
        }
        SixBitBoard b = assembled("ORIG|3999", "CON|1", "ORIG|10", "CON|-0", "ORIG|12", "CON|-19", "ORIG|11", "CON|2", "ORIG|14", "CON|3", "ORIG|0", "CON|4", "END|14");
        Kit.due("cards", b.deck(), 5);
        Kit.dueLines("in order", b, 17, "     100000000000004", "     30010000000000~0000000002000000001R", "     100140000000003", "     139990000000001", "     00014");
    }

    private static void deckStart() {
        Kit.told("from 0 on; the transfer card (0 when it starts below 0)");
        SixBitBoard b = assembled("ORIG|-2", "CON|1", "CON|2", "CON|3", "END|-2");
        Kit.due("cards", b.deck(), 2);
        Kit.dueLines("below 0", b, 17, "     100000000000003", "     00000");
        b = assembled("END|3999");
        b.deck();
        Kit.dueLines("3999", b, 17, "     03999");
        Kit.told("that the latest assembling put something to, as they are now");
        b = Kit.ran("STZ|3", "ENTA|7", "STA|50", "CON|9", "END|0");
        Kit.due("cards", b.deck(), 2);
        Kit.due("word 3 is 0 now, 50 is no such word", Kit.line(b, 17, 0).substring(40), "0000000000");
        Kit.told("a line each, at most 300, later ones are lost");
        SixBitBoard c = assembled("CON|1", "END|0");
        for (int k = 0; k < 160; k++) {
            Kit.due("both count", c.deck(), 2);
        }
        Kit.due("300", c.unit(17), 300);
    }

    private static void listLines() {
        Kit.told("a line for each such word, in order: columns 1 to 4 its address, 6 its sign, 7 to 10 bytes 1 and 2 as a number, 12, 13 its index, 15, 16 F, 18, 19 C");
        SixBitBoard b = assembled("ORIG|-1", "CON|1", "CON|-0", "CON|-1073741823", "ORIG|3999", "CON|1(0:2),2(3:3),3(4:4),8(5:5)", "ORIG|3000", "CON|4095(0:2),63(3:3),0(4:4),1(5:5)", "END|0");
        Kit.due("four", b.list(), 4);
        Kit.dueLines("lines", b, 18, "0000 -0000 00 00 00 NOP", "0001 -4095 63 63 63 CMPX", "3000 +4095 63 00 01 ADD", "3999 +0001 02 03 08 LDA");
        b = assembled("ORIG|-5", "CON|1", "END|0");
        Kit.due("none from 0 on", b.list(), 0);
    }

    private static void listNames() {
        Kit.told("from 21 on its name: of C 5, 6 and 39 to 55 that with this F, of others that of C; ? when there is none");
        String[] others = {"NOP", "ADD", "SUB", "MUL", "DIV", "", "", "MOVE"};
        for (int c = 0; c <= 63; c++) {
            StringBuilder text = new StringBuilder();
            for (int f = 0; f <= 63; f++) {
                text.append(Kit.source(Kit.instruction(0, 0, f, c)));
            }
            SixBitBoard b = new SixBitBoard();
            Kit.feed(b, text + Kit.source("END|0")).assemble();
            Kit.due("C " + c, b.list(), 64);
            boolean byF = c == 5 || c == 6 || c >= 39 && c <= 55;
            int known = c == 5 ? 4 : c == 39 ? 10 : c >= 48 ? 4 : 6;
            String first = Kit.line(b, 18, 0).substring(20);
            for (int f = 0; f <= 63; f++) {
                String name = Kit.line(b, 18, f).substring(20);
                if (byF) {
                    Kit.due("C " + c + " F " + f + " has a name", !name.equals("?"), f < known);
                } else {
                    Kit.due("C " + c + " F " + f, name, c < 8 ? others[c] : first);
                }
            }
        }
    }

    private static void listingLines() {
        Kit.told("a line for each line of the latest assembling's text, up to END: 6 to 10 the sign and address of the first word that it put (not those that come at END), as it is now (spaces when it put none)");
        SixBitBoard b = new SixBitBoard();
        Kit.feed(b, "*\n\n" + Kit.source("ORIG|-1", "CON|-5", "LDA|=7=", "ALF|A", "E|EQU|1", "ORIG|3999", "CON|8", "ORIG|10", "X|END|0") + "BEHIND\n").assemble();
        Kit.due("11 lines", b.listing(), 11);
        Kit.dueLines("lines", b, 18,
            "0001                   *",
            "0002",
            "0003                              ORIG -1",
            "0004 -0001 -0000000005            CON  -5",
            "0005 +0000 +0002621768            LDA  =7=",
            "0006 +0001 +0016777216            ALF  A",
            "0007                   E          EQU  1",
            "0008                              ORIG 3999",
            "0009 +3999 +0000000008            CON  8",
            "0010                              ORIG 10",
            "0011                   X          END  0");
        b = Kit.ran("STZ|2", "HLT", "CON|9", "END|0");
        b.listing();
        Kit.due("as it is now", Kit.line(b, 18, 2), "0003 +0002 +0000000000            CON  9");
        SixBitBoard c = new SixBitBoard();
        Kit.feed(c, "*" + "X".repeat(100) + "\n" + Kit.source("END|0")).assemble();
        c.listing();
        Kit.due("80 letters", Kit.line(c, 18, 0), "0001                   *" + "X".repeat(79));
    }

    private static void nameOrder() {
        Kit.told("a line for each symbol (no local ones), in the order of its characters' codes (digits ahead of letters)");
        SixBitBoard b = assembled("B|EQU|1", "AB|EQU|2", "A|EQU|3", "A0|EQU|4", "0A|EQU|5", "9Z|EQU|6", "ZZZZZZZZZZ|EQU|7", "AA|EQU|8", "A9|EQU|9", "1H|EQU|1", "JMP|FUT", "JMP|2F", "END|0");
        Kit.due("ten", b.names(), 10);
        String[] want = {"0A", "9Z", "A", "A0", "A9", "AA", "AB", "B", "FUT", "ZZZZZZZZZZ"};
        for (int k = 0; k < want.length; k++) {
            Kit.due("name " + k, Kit.line(b, 18, k).substring(0, 10).trim(), want[k]);
        }
        Kit.due("none", assembled("1H|NOP|", "END|0").names(), 0);
    }

    private static void nameLines() {
        Kit.told("12 to 22 sign and ten digits of its value, then, each behind a space, four digits: the lines (at most 16, the first ones) in whose ADDRESS it was read as an atom or a future symbol");
        for (int uses = 0; uses <= 18; uses++) {
            SixBitBoard b = new SixBitBoard();
            Kit.feed(b, Kit.source("A|EQU|-0") + Kit.source("CON|A+A(A)").repeat(uses) + Kit.source("END|0")).assemble();
            b.names();
            StringBuilder want = new StringBuilder("A          -0000000000");
            for (int k = 0; k < Math.min(uses, 16); k++) {
                want.append(String.format(" %04d", k + 2));
            }
            Kit.dueLines(uses + " lines", b, 18, want.toString());
        }
        SixBitBoard b = new SixBitBoard();
        Kit.feed(b, "A          EQU  5 A A\n* A\n           NOP  A,A(A)\n           NOP  =A=\n           ALF  A\n           ORIG A\n           NOP  F\nF          EQU  A\n           NOP  F\n           END  F\n").assemble();
        Kit.due("two", b.names(), 2);
        Kit.dueLines("an atom, a future symbol", b, 18, "A          +0000000005 0003 0004 0006 0008", "F          +0000000005 0007 0009 0010");
    }

    private static void traceNumbers() {
        Kit.told("As run() (n from 0 to 300)");
        SixBitBoard b = assembled("JMP|0", "END|0");
        for (int n : new int[] {-1, 301, 100000, Integer.MIN_VALUE, Integer.MAX_VALUE, 0}) {
            Kit.due("trace " + n, b.trace(n), 0);
            Kit.due("nothing is done", b.time(), 0);
        }
        Kit.due("one", b.trace(1), 1);
        Kit.due("most", b.trace(300), 300);
        Kit.due("u", b.time(), 301);
        Kit.due("300 lines", b.unit(18), 300);
        Kit.due("no object runs", new SixBitBoard().trace(5), 0);
    }

    private static void traceLines() {
        Kit.told("for each instruction that is done 18 printer gets a line");
        SixBitBoard b = assembled("ORIG|-3999", "LDA|W", "LDXN|W", "ADD|W", "CMPA|W", "HLT", "W|CON|-1073741823", "END|-3999");
        Kit.due("five", b.trace(300), 5);
        Kit.dueLines("lines", b, 18,
            "-3999 -3994 00 05 08 LDA  -1073741823 +0000000000 0 E 000000002",
            "-3998 -3994 00 05 23 LDXN -1073741823 +1073741823 0 E 000000004",
            "-3997 -3994 00 05 01 ADD  -1073741822 +1073741823 1 E 000000006",
            "-3996 -3994 00 05 56 CMPA -1073741822 +1073741823 1 G 000000008",
            "-3995 +0000 00 02 05 HLT  -1073741822 +1073741823 1 G 000000018");
        b = assembled("ENNA|1", "CMPA|3000", "LDA|4000", "END|0");
        Kit.due("not a fault", b.trace(300), 2);
        Kit.due("less", Kit.line(b, 18, 1), "+0001 +3000 00 05 56 CMPA -0000000001 +0000000000 0 L 000000003");
    }

    private static void traceTime() {
        Kit.told("the time then (modulo 1000000000)");
        StringBuilder text = new StringBuilder();
        for (int k = 0; k < 360; k++) {
            text.append(Kit.source("OUT|0(17)"));
        }
        SixBitBoard b = new SixBitBoard();
        Kit.feed(b, text + Kit.source("JMP|0", "END|0")).assemble();
        for (int k = 0; k < 7; k++) {
            b.run(100000);
        }
        Kit.due("one more", b.trace(1), 1);
        Kit.due("time() goes on", b.time() > 1000000000L, true);
        Kit.due("nine digits", Kit.line(b, 18, 0).substring(54), String.format("%09d", b.time() % 1000000000L));
    }

    private static void notAssembled() {
        Kit.told("NONE when nothing is assembled (a job's source is, too)");
        SixBitBoard b = new SixBitBoard();
        dueNone("a new object", b);
        Kit.assemble(b, "FOO");
        dueNone("an error", b);
        Kit.feed(b, "*JOB A 50\n" + Kit.source("FOO|") + "*DATA\n*END\n").jobs();
        dueNone("a job's error", b);
        Kit.feed(b, "*JOB A 50\n" + Kit.source("S|HLT|", "END|0") + "*DATA\n*END\n").jobs();
        Kit.due("a job's source: deck", b.deck(), 2);
        Kit.due("a job's source: list", b.list(), 1);
        Kit.due("a job's source: listing", b.listing(), 2);
        Kit.due("a job's source: names", b.names(), 1);
        Kit.feed(b, "X").cards();
        b.go();
        dueNone("GO", b);
        Kit.assemble(b, "END|0");
        Kit.due("nothing put: deck", b.deck(), 1);
        Kit.due("nothing put: list", b.list(), 0);
        Kit.due("nothing put: listing", b.listing(), 1);
        Kit.due("nothing put: names", b.names(), 0);
    }

    private static void dueNone(String what, SixBitBoard b) {
        int lines = b.unit(18);
        Kit.due(what + ", deck", b.deck(), -1);
        Kit.due(what + ", list", b.list(), -1);
        Kit.due(what + ", listing", b.listing(), -1);
        Kit.due(what + ", names", b.names(), -1);
        Kit.due(what + ", no line", b.unit(18), lines);
    }
}
