/** Promises 7 (cards) and 9 (go). */
public final class CardTest {
    public static void main(String[] args) {
        cards();
        limits();
        going();
        bootstrap();
        Kit.close();
    }

    private static void cards() {
        SixBitBoard b = new SixBitBoard();
        Kit.due("no lines", b.cards(), 0);
        Kit.due("two", Kit.feed(b, "ONE\nTWO\n").cards(), 2);
        Kit.due("behind them", Kit.feed(b, "THREE").cards(), 3);
        Kit.due("a blank one", Kit.feed(b, "\n").cards(), 4);
        Kit.due("left", b.unit(16), 4);
        Kit.assemble(b, "IN|100(16)", "IN|116(16)", "IN|132(16)", "IN|148(16)", "IN|164(16)", "END|0");
        Kit.due("assembling leaves them", b.unit(16), 4);
        b.run(9);
        Kit.due("no more", b.state(), 7);
        Kit.due("none left", b.unit(16), 0);
        Kit.due("ONE", b.word(100), ((16L * 64 + 15) * 64 + 5) * 4096);
        Kit.due("TWO", b.word(116), ((23L * 64 + 26) * 64 + 16) * 4096);
        Kit.due("THREE", b.word(132), (((23L * 64 + 8) * 64 + 19) * 64 + 5) * 64 + 5);
        Kit.due("blank", b.word(148), 0);
        Kit.due("more again", Kit.feed(b, "X\nY").cards(), 2);
    }

    private static void limits() {
        SixBitBoard b = new SixBitBoard();
        Kit.due("400", Kit.feed(b, "\n".repeat(400)).cards(), 400);
        Kit.due("401", Kit.feed(b, "X").cards(), -1);
        Kit.due("none comes", b.unit(16), 400);
        Kit.due("no lines", b.cards(), 400);
        SixBitBoard c = new SixBitBoard();
        Kit.due("100 wide ones", Kit.feed(c, ("W".repeat(80) + "\n").repeat(100)).cards(), 100);
        Kit.feed(c, ("W".repeat(80) + "\n").repeat(100)).cards();
        Kit.feed(c, ("W".repeat(80) + "\n").repeat(100)).cards();
        Kit.due("400 wide ones", Kit.feed(c, ("Q".repeat(79) + "Z\n").repeat(100)).cards(), 400);
        for (int k = 0; k < 150; k++) {
            c.go();
        }
        Kit.due("250 left", c.unit(16), 250);
        Kit.due("400 again", Kit.feed(c, ("R".repeat(10) + "\n").repeat(150)).cards(), 400);
        c.go();
        Kit.due("the next wide one", c.word(0), 26L * (1 + 64 + 4096 + 262144 + 16777216));
        Kit.due("all of it", c.word(15), 26L * (1 + 64 + 4096 + 262144 + 16777216));
        for (int k = 1; k < 250; k++) {
            c.go();
        }
        Kit.due("the last wide one", c.word(15), (((18L * 64 + 18) * 64 + 18) * 64 + 18) * 64 + 29);
        c.go();
        Kit.due("the first short one", c.word(0), 19L * (1 + 64 + 4096 + 262144 + 16777216));
        Kit.due("149 left", c.unit(16), 149);
    }

    private static void going() {
        SixBitBoard b = Kit.ran("ENTA|5", "OUT|0(2)", "CMPA|0", "HLT", "END|0");
        Kit.assemble(b, "A|CON|(", "END|0");
        Kit.due("no card", b.go(), false);
        Kit.due("nothing is changed", b.error(), 1);
        Kit.assemble(b, "ENTA|5", "OUT|0(18)", "HLT", "A|END|0");
        b.run(9);
        Kit.due("no card", b.go(), false);
        Kit.due("all stays", b.state(), 1);
        Kit.due("still assembled", Kit.symbol(b, "A"), 3);
        Kit.feed(b, "*B\nC\n").cards();
        Kit.due("go", b.go(), true);
        Kit.due("a card less, * too", b.unit(16), 1);
        Kit.due("*B", b.word(0), (46L << 24) + (2 << 18));
        Kit.due("memory as at first", b.word(16), 0);
        Kit.due("A as at first", b.register(0), 0);
        Kit.due("time 0", b.time(), 0);
        Kit.due("it runs", b.state(), 0);
        Kit.due("from 0", b.register(11), 0);
        Kit.due("tapes stand", b.unit(2), 1);
        Kit.due("nothing is assembled", b.deck(), -1);
        Kit.due("list", b.list(), -1);
        Kit.due("listing", b.listing(), -1);
        Kit.due("names", b.names(), -1);
        Kit.due("error() stays", b.error(), 0);
        Kit.assemble(b, "FOO|");
        Kit.due("go", b.go(), true);
        Kit.due("error() stays", b.error(), 2);
    }

    /** A card that is a program: IN 16(16), JBUS 1(16), JMP 16, and a second card that halts. */
    private static void bootstrap() {
        SixBitBoard b = new SixBitBoard();
        // " O O6" = IN 16(16); " A O4" = JBUS 1(16); " O  9" = JMP 16; the next card: "   BE" = HLT
        Kit.feed(b, " O O6 A O4 O  9\n   BE\n").cards();
        Kit.due("go", b.go(), true);
        Kit.due("IN", b.word(0), (16L << 18) + (16 << 6) + 36);
        b.run(2000);
        Kit.due("it halts", b.state(), 1);
        Kit.due("counter", b.register(11), 17);
        Kit.due("u", b.time(), 1000 + 1 + 1 + 10);
        Kit.due("not watched", b.word(-11), 0);
    }
}
