/** Promises 1 to 3: a new object, feed, end; and what the tape is for all that reads it. */
public final class TapeTest {
    public static void main(String[] args) {
        newObject();
        feeding();
        ending();
        usedUp();
        Kit.close();
    }

    private static void newObject() {
        SixBitBoard b = new SixBitBoard();
        Kit.due("NONE", SixBitBoard.NONE, -1);
        for (int a = -3999; a <= 3999; a++) {
            Kit.due("word " + a, b.word(a), 0);
        }
        for (int k = 0; k <= 11; k++) {
            Kit.due("register " + k, b.register(k), 0);
        }
        Kit.due("state", b.state(), 9);
        Kit.due("time", b.time(), 0);
        Kit.due("error", b.error(), 0);
        for (int u = -1; u <= 20; u++) {
            boolean counts = u >= 0 && u <= 7 || u >= 16 && u <= 19;
            Kit.due("unit " + u, b.unit(u), counts ? 0 : -1);
            Kit.due("letter of " + u, b.letter(u, 0, 0), -1);
        }
        for (int u = 0; u < 16; u++) {
            Kit.due("block of " + u, b.block(u, 0, 0), 0);
            Kit.due("last block of " + u, b.block(u, 63, 99), 0);
        }
        Kit.due("run", b.run(10), 0);
        Kit.due("trace", b.trace(10), 0);
        Kit.due("go", b.go(), false);
        Kit.due("deck", b.deck(), -1);
        Kit.due("list", b.list(), -1);
        Kit.due("listing", b.listing(), -1);
        Kit.due("names", b.names(), -1);
        Kit.due("account", b.account(0, 0), -1);
        Kit.due("summary", b.summary(), -1);
        Kit.due("jobs", b.jobs(), 0);
        Kit.throwsNone("symbol", b::symbol);
        Kit.due("cards", b.cards(), 0);
        Kit.due("mount", b.mount(0, 0), 0);
        Kit.due("end 0", b.end(0), true);
        Kit.due("end 1", b.end(1), false);
        Kit.due("nothing is written", b.unit(18), 0);
        Kit.due("assemble", b.assemble(), -2);
        Kit.due("error 7", b.error(), 7);
    }

    private static void feeding() {
        SixBitBoard b = new SixBitBoard();
        Kit.due("feed", b.feed(0x41424344, 0x45464748, 0x494A4B4C, 0x4D4E4F50, 0x51525354), true);
        Kit.due("mount", b.mount(3, 5), 1);
        Kit.due("ABCDE", b.block(3, 5, 0), word(1, 2, 3, 4, 5));
        Kit.due("FGHIJ", b.block(3, 5, 1), word(6, 7, 8, 9, 11));
        Kit.due("KLMNO", b.block(3, 5, 2), word(12, 13, 14, 15, 16));
        Kit.due("PQRST", b.block(3, 5, 3), word(17, 18, 19, 22, 23));
        Kit.due("behind", b.block(3, 5, 4), 0);
        for (int k = 0; k < 409; k++) {
            Kit.due("feed " + k, b.feed(0x20202020, 0x20202020, 0x20202020, 0x20202020, 0x20202020), true);
        }
        Kit.due("feed above 8192", b.feed(-1, -1, -1, -1, -1), false);
        Kit.due("it has 8180 still", b.end(8181), false);
        Kit.due("cut to 8173", b.end(8173), true);
        Kit.due("8193", b.feed(1, 1, 1, 1, 1), false);
        Kit.due("cut to 8172", b.end(8172), true);
        Kit.due("8192", b.feed(0x0A0A0A0A, 0x0A0A0A0A, 0x0A0A0A0A, 0x0A0A0A0A, 0x41414141), true);
        Kit.due("full", b.feed(1, 1, 1, 1, 1), false);
        Kit.due("all 8192 count", b.end(8192), true);
        Kit.due("17 lines", b.cards(), 17);
    }

    private static void ending() {
        SixBitBoard b = new SixBitBoard();
        Kit.feed(b, "HELLO");
        Kit.due("below 0", b.end(-1), false);
        Kit.due("too many", b.end(6), false);
        Kit.due("all", b.end(5), true);
        Kit.due("fewer", b.end(4), true);
        Kit.due("gone", b.end(5), false);
        Kit.due("least", b.end(Integer.MIN_VALUE), false);
        Kit.due("greatest", b.end(Integer.MAX_VALUE), false);
        Kit.due("mount", b.mount(0, 0), 1);
        Kit.due("HELL", b.block(0, 0, 0), word(8, 5, 13, 13, 0));
        Kit.due("behind an end the next bytes come there", b.feed(0x41424300, 0, 0, 0, 0), true);
        Kit.due("end 2", b.end(2), true);
        b.feed(0x5A5A5A5A, 0, 0, 0, 0);
        b.end(5);
        Kit.due("mount", b.mount(0, 0), 1);
        Kit.due("ABZZZ", b.block(0, 0, 0), word(1, 2, 29, 29, 29));
    }

    /** Each call that reads the tape leaves it empty, whatever it answers. */
    private static void usedUp() {
        for (int call = 0; call < 7; call++) {
            SixBitBoard b = Kit.feed(new SixBitBoard(), "WHAT IS NOTHING\n\n\n");
            switch (call) {
                case 0 -> b.assemble();
                case 1 -> b.errors();
                case 2 -> b.cards();
                case 3 -> b.jobs();
                case 4 -> b.mount(99, 0);
                case 5 -> b.mount(0, 0);
                default -> Kit.throwsNone("symbol", b::symbol);
            }
            Kit.due("used up by " + call, b.end(1), false);
        }
        SixBitBoard b = new SixBitBoard();
        Kit.feed(b, "\n".repeat(401));
        Kit.due("too many cards", b.cards(), -1);
        Kit.due("used up by too many cards", b.end(1), false);
    }

    private static long word(int a, int b, int c, int d, int e) {
        return (((a * 64L + b) * 64 + c) * 64 + d) * 64 + e;
    }
}
