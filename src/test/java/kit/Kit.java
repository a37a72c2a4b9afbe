import java.util.NoSuchElementException;

/** What the tests share: feeding texts, reading lines, and counting wrong answers. */
final class Kit {
    static final long LEAST = Integer.MIN_VALUE;
    static final String LETTERS = " ABCDEFGHI~JKLMNOPQR[#STUVWXYZ0123456789.,()+-*/=$<>@;:'";
    private static int wrong = 0;
    private static int looked = 0;
    private static String sentence = "";

    private Kit() {
    }

    /** The sentence of the document that the answers behind this call are due by. */
    static void told(String words) {
        sentence = "\"" + words + "\" ";
    }

    interface Call {
        long ask();
    }

    static void due(String what, long got, long want) {
        looked++;
        if (got != want) {
            wrong++;
            System.out.println(sentence + what + ": answered " + got + ", due is " + want);
        }
    }

    static void due(String what, boolean got, boolean want) {
        due(what, got ? 1 : 0, want ? 1 : 0);
    }

    static void due(String what, String got, String want) {
        looked++;
        if (!got.equals(want)) {
            wrong++;
            System.out.println(sentence + what + ": answered\n [" + got + "], due is\n [" + want + "]");
        }
    }

    static void throwsNone(String what, Call call) {
        looked++;
        try {
            long got = call.ask();
            wrong++;
            System.out.println(sentence + what + ": answered " + got + ", due is NoSuchElementException");
        } catch (NoSuchElementException e) {
            // as due
        }
    }

    static void close() {
        System.out.println(looked + " answers looked at, " + wrong + " wrong");
        if (wrong != 0 || looked == 0) {
            System.exit(1);
        }
    }

    static SixBitBoard feed(SixBitBoard b, String text) {
        int size = text.length();
        for (int at = 0; at < size; at += 20) {
            int[] n = new int[5];
            for (int i = 0; i < 20; i++) {
                int c = at + i < size ? text.charAt(at + i) & 255 : 0;
                n[i / 4] = n[i / 4] << 8 | c;
            }
            if (!b.feed(n[0], n[1], n[2], n[3], n[4])) {
                throw new IllegalStateException("the text is too long");
            }
        }
        if (!b.end(size)) {
            throw new IllegalStateException("the tape is too short");
        }
        return b;
    }

    /** A line of source. */
    static String src(String loc, String op, String address) {
        return String.format("%-10s %-4s %s\n", loc, op, address);
    }

    /** Lines of source: each "LOC|OP|ADDRESS", "OP|ADDRESS" or "OP". */
    static String source(String... lines) {
        StringBuilder all = new StringBuilder();
        for (String line : lines) {
            String[] part = line.split("\\|", -1);
            if (part.length == 3) {
                all.append(src(part[0], part[1], part[2]));
            } else {
                all.append(src("", part[0], part.length > 1 ? part[1] : ""));
            }
        }
        return all.toString();
    }

    static String lines(String... lines) {
        StringBuilder all = new StringBuilder();
        for (String line : lines) {
            all.append(line).append('\n');
        }
        return all.toString();
    }

    static int assemble(SixBitBoard b, String... lines) {
        return feed(b, source(lines)).assemble();
    }

    /** A new object with these lines assembled, and run to its stop. */
    static SixBitBoard ran(String... lines) {
        SixBitBoard b = new SixBitBoard();
        int words = assemble(b, lines);
        if (words < 0) {
            throw new IllegalStateException("line " + (-1 - words) + " has error " + b.error());
        }
        b.run(100000);
        return b;
    }

    /** The word of five bytes, without a sign. */
    static long bytes(int a, int b, int c, int d, int e) {
        return (((a * 64L + b) * 64 + c) * 64 + d) * 64 + e;
    }

    /** The line of an instruction's word, told by its parts. */
    static String instruction(int address, int index, int f, int c) {
        return "CON|" + address + "(0:2)," + index + "(3:3)," + f + "(4:4)," + c + "(5:5)";
    }

    /** The word of five letters. */
    static long letters(String five) {
        long w = 0;
        for (char c : five.toCharArray()) {
            w = w * 64 + LETTERS.indexOf(c);
        }
        return w;
    }

    static long symbol(SixBitBoard b, String name) {
        return feed(b, name).symbol();
    }

    static String line(SixBitBoard b, int u, int k) {
        StringBuilder line = new StringBuilder();
        for (int i = 0; b.letter(u, k, i) != SixBitBoard.NONE; i++) {
            line.append((char) b.letter(u, k, i));
        }
        return line.toString();
    }

    /** All lines of a unit must be these. */
    static void dueLines(String what, SixBitBoard b, int u, String... want) {
        due(what + ", lines", b.unit(u), want.length);
        for (int k = 0; k < want.length; k++) {
            due(what + ", line " + k, line(b, u, k), want[k]);
        }
    }

    /** Registers A and X. */
    static void dueAX(String what, SixBitBoard b, long a, long x) {
        due(what + ", A", b.register(0), a);
        due(what + ", X", b.register(7), x);
    }
}
