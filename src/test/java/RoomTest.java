import java.lang.management.ManagementFactory;

/**
 * What one object takes, from its constructor to its 512th call: bytes that the class's own calls allocate. An element
 * has one byte at least, so what stays below 7.3 million bytes stays below as many elements.
 */
public final class RoomTest {
    private static final int CALLS = 512;
    private static final long ROOM = 2_000_000;
    private static final com.sun.management.ThreadMXBean BEAN = (com.sun.management.ThreadMXBean) ManagementFactory.getThreadMXBean();

    public static void main(String[] args) {
        Kit.due("bytes can be counted", BEAN.isThreadAllocatedMemorySupported(), true);
        for (int warm = 0; warm < 2; warm++) {
            reports();
            decks();
            media();
            answers();
        }
        callsToTheLast();
        Kit.close();
    }

    private static long taken() {
        return BEAN.getThreadAllocatedBytes(Thread.currentThread().getId());
    }

    private static int[] tape(String text) {
        int[] n = new int[(text.length() + 19) / 20 * 5];
        for (int i = 0; i < text.length(); i++) {
            n[i / 4] |= text.charAt(i) << 24 - i % 4 * 8;
        }
        return n;
    }

    /** Feeds what tape() made: how many calls it took. */
    private static int feed(SixBitBoard b, int[] n) {
        for (int k = 0; k < n.length; k += 5) {
            b.feed(n[k], n[k + 1], n[k + 2], n[k + 3], n[k + 4]);
        }
        return n.length / 5;
    }

    private static void due(String what, long from) {
        long bytes = taken() - from;
        Kit.due(what + ": " + bytes + " bytes are few", bytes < ROOM, true);
    }

    private static void reports() {
        int[] text = tape(Kit.source("A|LDA|=5=", "B|STA|X", "JMP|A", "END|A"));
        long from = taken();
        SixBitBoard b = new SixBitBoard();
        int calls = feed(b, text) + 1;
        b.assemble();
        for (; calls + 7 <= CALLS; calls += 7) {
            b.deck();
            b.list();
            b.listing();
            b.names();
            b.trace(300);
            b.run(100);
            b.state();
        }
        due("reports", from);
    }

    private static void decks() {
        int[] deck = tape("*JOB A 300 DUMP LIST NAMES DECK TRACE\n" + Kit.source("JMP|X", "CON|1", "X|HLT|", "END|0") + "*DATA\nX\n*END\n*JOB B 99\n*SAME\n*DATA\n*END\n*JOB C 9\n*LOAD\nX\n*DATA\n*END\n");
        long from = taken();
        SixBitBoard b = new SixBitBoard();
        for (int calls = 0; calls + deck.length / 5 + 2 <= CALLS; calls += 2) {
            calls += feed(b, deck);
            b.jobs();
            b.summary();
        }
        due("decks", from);
    }

    /** Every tape and disk is written to, and every line of paper. */
    private static void media() {
        int[] one = tape("A");
        int[] text = tape(Kit.source("OUT|0(17)", "OUT|0(18)", "OUT|0(19)", "JMP|0", "END|0"));
        long from = taken();
        SixBitBoard b = new SixBitBoard();
        int calls = 0;
        for (int u = 0; u < 16; u++) {
            calls += feed(b, one) + 1;
            b.mount(u, 0);
        }
        calls += feed(b, one) + 1;
        b.cards();
        calls += feed(b, text) + 1;
        b.assemble();
        for (; calls < CALLS; calls++) {
            b.run(2000);
        }
        due("media", from);
        Kit.due("all paper", b.unit(17) + b.unit(18) + b.unit(19), 900);
    }

    private static void answers() {
        long from = taken();
        SixBitBoard b = new SixBitBoard();
        long sum = 0;
        for (int calls = 0; calls + 8 <= CALLS; calls += 8) {
            sum += b.register(calls % 12) + b.word(calls) + b.time() + b.unit(16) + b.letter(18, 0, 0) + b.block(3, 0, 0) + b.account(0, 0) + b.error();
        }
        due("answers", from);
        Kit.due("all of a new object", sum, -2 * (CALLS / 8));
    }

    private static void callsToTheLast() {
        Kit.told("An object is used for at most 512 calls after it has been made");
        SixBitBoard b = new SixBitBoard();
        int calls = feed(b, tape(Kit.source("JMP|0", "END|0"))) + 1;
        b.assemble();
        long ran = 0;
        for (; calls < CALLS - 1; calls++) {
            ran += b.run(1);
        }
        Kit.due("the 512th", b.time(), ran);
        Kit.due("so many", ran > 500, true);
    }
}
