import java.util.Arrays;
import java.util.NoSuchElementException;

/**
 * A computer of words with a sign and five bytes of six bits, with its assembler,
 * its units and a monitor that runs decks of jobs.
 */
public final class SixBitBoard {
    public static final int NONE = -1;

    private static final int TAPE = 8192;
    private static final int READER = 16;
    private static final int PUNCH = 17;
    private static final int PRINTER = 18;
    private static final int TYPEWRITER = 19;

    private final byte[] tape;
    private int fed;
    private final Text text;
    private final Units units;
    private final Machine machine;
    private final Assembler assembler;
    private final Report report;
    private final Monitor monitor;

    public SixBitBoard() {
        int[] memory = new int[Machine.WORDS];
        byte[] input = new byte[TAPE];
        Text source = new Text(new byte[TAPE]);
        Units beside = new Units(memory);
        Machine computer = new Machine(memory, beside);
        Assembler translator = new Assembler(source, memory, new Symbols());
        tape = input;
        text = source;
        units = beside;
        machine = computer;
        assembler = translator;
        report = new Report(computer, translator, beside);
        monitor = new Monitor(new Text(input));
    }

    public boolean feed(int a, int b, int c, int d, int e) {
        if (fed + 20 > TAPE) {
            return false;
        }
        punchTape(a);
        punchTape(b);
        punchTape(c);
        punchTape(d);
        punchTape(e);
        return true;
    }

    public boolean end(int n) {
        if (n < 0 || n > fed) {
            return false;
        }
        fed = n;
        return true;
    }

    public int assemble() {
        int size = useUpTape();
        System.arraycopy(tape, 0, text.bytes, 0, size);
        machine.clear();
        assembler.open(0, size, false);
        int wrong = assembler.nextWrong();
        assembler.close(wrong);
        if (wrong != 0) {
            machine.clear();
            return -1 - text.line;
        }
        machine.start(assembler.start);
        return assembler.words;
    }

    public int errors() {
        int size = useUpTape();
        System.arraycopy(tape, 0, text.bytes, 0, size);
        machine.clear();
        assembler.open(0, size, false);
        int count = report.printWrongs(Paper.WIDTH, false);
        machine.clear();
        return count;
    }

    public int error() {
        return assembler.kind;
    }

    public int cards() {
        int size = useUpTape();
        Text lines = monitor.deck;
        int count = units.reader.left;
        lines.open(0, size);
        for (int k = 0; k < TAPE && lines.advance(); k++) {
            count++;
        }
        if (count > Reader.MOST) {
            return NONE;
        }
        lines.open(0, size);
        for (int k = 0; k < TAPE && lines.advance(); k++) {
            units.reader.add(lines);
        }
        return count;
    }

    public int run(int n) {
        return n < 0 || n > 100000 ? 0 : advance(n, false);
    }

    public boolean go() {
        if (!units.reader.hasCard(false)) {
            return false;
        }
        machine.clear();
        assembler.whole = false;
        units.reader.take(machine.memory, Machine.HIGH);
        machine.start(0);
        return true;
    }

    public int deck() {
        return assembler.whole ? report.punchCards() : NONE;
    }

    public int list() {
        return assembler.whole ? report.printWords(Paper.WIDTH, false) : NONE;
    }

    public int listing() {
        return assembler.whole ? report.printLines() : NONE;
    }

    public int names() {
        return assembler.whole ? report.printSymbols(16, Paper.WIDTH) : NONE;
    }

    public int trace(int n) {
        return n < 0 || n > 300 ? 0 : advance(n, true);
    }

    public int mount(int unit, int b) {
        int size = useUpTape();
        int words = (size + 4) / 5;
        int count = (words + Units.BLOCK - 1) / Units.BLOCK;
        if (unit < 0 || unit >= READER || b < 0 || b >= Units.BLOCKS || b + count > Units.BLOCKS) {
            return NONE;
        }
        for (int w = 0; w < count * Units.BLOCK; w++) {
            units.store(unit, b * Units.BLOCK + w, tapeWord(5 * w, size));
        }
        return count;
    }

    public int jobs() {
        int size = useUpTape();
        monitor.deck.open(0, size);
        int done = 0;
        for (int k = 0; k < Monitor.MOST && monitor.seek(); k++) {
            if (done == 0) {
                System.arraycopy(tape, 0, text.bytes, 0, size);
                monitor.openAccounts();
            }
            int ended = layJob();
            if (ended == Monitor.ERROR && monitor.wants(Monitor.LIST)) {
                assembler.open(monitor.bodyFrom, monitor.bodyTo, true);
                report.printWrongs(Report.JOB_WIDTH, true);
            }
            if (ended == NONE) {
                ended = runJob();
            } else {
                machine.clear();
            }
            closeJob(ended);
            done++;
        }
        return done;
    }

    public int account(int k, int what) {
        return monitor.entry(k, what);
    }

    public int summary() {
        return monitor.count == 0 ? NONE : report.printSummary(monitor);
    }

    public int state() {
        return machine.status;
    }

    public int register(int k) throws NoSuchElementException {
        if (k < 0 || k > 11) {
            throw new NoSuchElementException();
        }
        if (k == 9) {
            return machine.overflow ? 1 : 0;
        }
        if (k == 10) {
            return machine.comparison;
        }
        return k == 11 ? machine.counter : Codes.shown(machine.registers[k]);
    }

    public int word(int address) throws NoSuchElementException {
        if (address < -Machine.HIGH || address > Machine.HIGH) {
            throw new NoSuchElementException();
        }
        return Codes.shown(machine.memory[address + Machine.HIGH]);
    }

    public long time() {
        return machine.time;
    }

    public int symbol() throws NoSuchElementException {
        long name = tapeName(useUpTape());
        int i = assembler.whole && name > 0 ? assembler.symbols.find(name) : NONE;
        if (i < 0 || assembler.symbols.standing(i) != Symbols.DEFINED) {
            throw new NoSuchElementException();
        }
        return Codes.shown(assembler.symbols.values[i]);
    }

    public int unit(int u) {
        if (u >= 0 && u < Units.TAPES) {
            return units.stands[u];
        }
        if (u == READER) {
            return units.reader.left;
        }
        return u >= PUNCH && u <= TYPEWRITER ? units.paper(u).written : NONE;
    }

    public int letter(int u, int k, int i) {
        return u >= PUNCH && u <= TYPEWRITER ? units.paper(u).letterAt(k, i) : NONE;
    }

    public int block(int u, int b, int i) throws NoSuchElementException {
        boolean there = u >= 0 && u < READER && b >= 0 && b < Units.BLOCKS && i >= 0 && i < Units.BLOCK;
        if (!there) {
            throw new NoSuchElementException();
        }
        return Codes.shown(units.stored(u, b * Units.BLOCK + i));
    }

    public void tear() {
        units.punch.written = 0;
        units.printer.written = 0;
        units.typewriter.written = 0;
    }

    private void punchTape(int n) {
        for (int shift = 24; shift >= 0; shift -= 8) {
            if (fed < TAPE) {
                tape[fed] = (byte) (n >> shift);
                fed++;
            }
        }
    }

    private int useUpTape() {
        int size = fed;
        fed = 0;
        return size;
    }

    private int tapeWord(int from, int size) {
        int w = 0;
        for (int i = from; i < from + 5; i++) {
            w = w << 6 | (i < size && i < TAPE ? Codes.code(tape[i]) : 0);
        }
        return w;
    }

    /** The name that the tape's bytes are, as the symbols have it; 0 when they are none. */
    private long tapeName(int size) {
        if (size < 1 || size > 10) {
            return 0;
        }
        long name = 0;
        for (int i = 0; i < size; i++) {
            int rank = Codes.rank(tape[i]);
            if (rank == 0) {
                return 0;
            }
            name = name << 6 | rank;
        }
        return name << 6 * (10 - size);
    }

    private int advance(int n, boolean traced) {
        int done = 0;
        // An interrupt is no instruction, and none comes right behind another one.
        for (int k = 0; k < 2 * n && done < n && machine.status == Machine.RUNS; k++) {
            if (machine.advance()) {
                done++;
                if (traced) {
                    report.printTrace();
                }
            }
        }
        return done;
    }

    /** Puts the job's program into memory: NONE when it can run, or how it ended already. */
    private int layJob() {
        machine.clear();
        units.rewind();
        layData();
        assembler.whole = false;
        if (monitor.kind != Monitor.SOURCE) {
            assembler.kind = 0;
            monitor.place = monitor.kind == Monitor.LOAD ? monitor.load(text, machine.memory) : monitor.again(machine.memory);
            return monitor.place == 0 ? NONE : Monitor.CARD;
        }
        assembler.open(monitor.bodyFrom, monitor.bodyTo, true);
        int wrong = assembler.nextWrong();
        assembler.close(wrong);
        if (wrong != 0) {
            monitor.place = text.line;
            return Monitor.ERROR;
        }
        monitor.begins = assembler.start;
        printSource();
        return NONE;
    }

    private void layData() {
        units.reader.empty();
        text.open(monitor.dataFrom, monitor.dataTo);
        for (int k = 0; k < TAPE && text.advance() && text.row[0] != '*'; k++) {
            units.reader.add(text);
        }
    }

    private void printSource() {
        if (monitor.wants(Monitor.LIST)) {
            report.printWords(Report.JOB_WIDTH, true);
        }
        if (monitor.wants(Monitor.NAMES)) {
            report.printSymbols(10, Report.JOB_WIDTH);
        }
        if (monitor.wants(Monitor.DECK)) {
            report.punchCards();
        }
    }

    private int runJob() {
        monitor.keep(machine.memory);
        machine.start(monitor.begins);
        machine.limit = monitor.limit;
        int traced = monitor.wants(Monitor.TRACE) ? 0 : Report.JOB_TRACES;
        // Each instruction costs one u at least, and a limit has five digits.
        for (int k = 0; k <= 100000 && machine.status == Machine.RUNS; k++) {
            if (machine.advance() && traced < Report.JOB_TRACES) {
                report.printTrace();
                traced++;
            }
        }
        monitor.place = machine.counter;
        if (machine.status == Machine.HALTED) {
            return Monitor.HALT;
        }
        return machine.status == Machine.NOTHING ? Monitor.LIMIT : Monitor.FAULT;
    }

    private void closeJob(int ended) {
        int kind = ended == Monitor.FAULT ? machine.status - 1 : 0;
        if (ended == Monitor.ERROR) {
            kind = assembler.kind;
        }
        monitor.enter(ended, kind, (int) machine.time);
        report.printJob(monitor);
        if (monitor.wants(Monitor.DUMP) && ended <= Monitor.FAULT) {
            report.printDump();
        }
    }

    /** Words (the magnitude, and SIGN for -), letters, and the names of operations. */
    private static final class Codes {
        static final int SIGN = 1 << 30;
        static final int FULL = SIGN - 1;
        static final int TWO_BYTES = 4095;
        static final int LEAST_INT = 1 << 31;
        static final String LETTERS = " ABCDEFGHI~JKLMNOPQR[#STUVWXYZ0123456789.,()+-*/=$<>@;:'";

        // Operations have numbers in the order of these names, four letters each.
        static final String FIRST = "NOP ADD SUB MUL DIV NUM CHARHLT INT SLA SRA SLAXSRAXSLC SRC MOVE";
        static final String SECOND = "LDA LD1 LD2 LD3 LD4 LD5 LD6 LDX LDANLD1NLD2NLD3NLD4NLD5NLD6NLDXNSTA ST1 ST2 ST3 ST4 ST5 ST6 STX STJ STZ JBUSIOC IN  OUT JRED";
        static final String JUMPS = "JMP JSJ JOV JNOVJL  JE  JG  JGE JNE JLE ";
        static final String TESTS = "JAN JAZ JAP JANNJANZJANPJ1N J1Z J1P J1NNJ1NZJ1NPJ2N J2Z J2P J2NNJ2NZJ2NPJ3N J3Z J3P J3NNJ3NZJ3NPJ4N J4Z J4P J4NNJ4NZJ4NPJ5N J5Z J5P J5NNJ5NZJ5NPJ6N J6Z J6P J6NNJ6NZJ6NPJXN JXZ JXP JXNNJXNZJXNP";
        static final String LAST = "INCADECAENTAENNAINC1DEC1ENT1ENN1INC2DEC2ENT2ENN2INC3DEC3ENT3ENN3INC4DEC4ENT4ENN4INC5DEC5ENT5ENN5INC6DEC6ENT6ENN6INCXDECXENTXENNXCMPACMP1CMP2CMP3CMP4CMP5CMP6CMPX";
        static final String OTHERS = "EQU ORIGCON ALF END FADDFSUBFMULFDIVFCMPFLOTFIX ";
        static final int EQU = 145;
        static final int ORIG = 146;
        static final int CON = 147;
        static final int ALF = 148;
        static final int END = 149;
        static final int REFUSED = 150;
        static final int OPS = 157;

        private Codes() {
        }

        static int value(int w) {
            return (w & SIGN) != 0 ? -(w & FULL) : w & FULL;
        }

        static int shown(int w) {
            return w == SIGN ? LEAST_INT : value(w);
        }

        /** The word of a number; what is beyond the magnitude is lost, and 0 is +0. */
        static int wordOf(long v) {
            int magnitude = (int) (Math.abs(v) & FULL);
            return v < 0 ? SIGN | magnitude : magnitude;
        }

        static int byteOf(int w, int k) {
            return w >> 6 * (5 - k) & 63;
        }

        static boolean isField(int f) {
            return f >= 0 && f >> 3 <= (f & 7) && (f & 7) <= 5;
        }

        private static int maskOf(int f) {
            int left = Math.max(f >> 3, 1);
            return (1 << 6 * ((f & 7) - left + 1)) - 1;
        }

        /** The field, moved to the right, with its sign if it has it. */
        static int field(int w, int f) {
            int sign = f >> 3 == 0 ? w & SIGN : 0;
            return sign | (w & FULL) >> 6 * (5 - (f & 7)) & maskOf(f);
        }

        /** The word w with the bytes from the right of another one in its field. */
        static int stored(int w, int f, int from) {
            int low = 6 * (5 - (f & 7));
            int mask = maskOf(f) << low;
            int sign = (f >> 3 == 0 ? from : w) & SIGN;
            return sign | w & FULL & ~mask | (from & FULL) << low & mask;
        }

        /** The code 0 .. 55 of a byte that is read. */
        static int code(int b) {
            int c = b & 255;
            if (c >= 'a' && c <= 'z') {
                c += 'A' - 'a';
            }
            return Math.max(LETTERS.indexOf((char) c), 0);
        }

        static int written(int code) {
            return code >= 0 && code < 56 ? LETTERS.charAt(code) : '?';
        }

        /** Where a digit or letter stands in the order of names, from 1; 0 for others. */
        static int rank(int letter) {
            if (letter >= '0' && letter <= '9') {
                return letter - '0' + 1;
            }
            return letter >= 'A' && letter <= 'Z' ? letter - 'A' + 11 : 0;
        }

        static int letterOf(int rank) {
            if (rank <= 0) {
                return ' ';
            }
            return rank <= 10 ? '0' + rank - 1 : 'A' + rank - 11;
        }

        /** Letter i (0 .. 3) of an operation's name. */
        static int opLetter(int op, int i) {
            if (op < 16) {
                return letterIn(FIRST, op, i);
            }
            if (op < 47) {
                return letterIn(SECOND, op - 16, i);
            }
            if (op < 57) {
                return letterIn(JUMPS, op - 47, i);
            }
            if (op < 105) {
                return letterIn(TESTS, op - 57, i);
            }
            return op < EQU ? letterIn(LAST, op - 105, i) : letterIn(OTHERS, op - EQU, i);
        }

        private static int letterIn(String names, int k, int i) {
            int at = 4 * k + i;
            return at >= 0 && at < names.length() ? names.charAt(at) : ' ';
        }

        /** The operation of an instruction; NONE when there is none with this F. */
        static int opOf(int c, int f) {
            if (c < 5) {
                return c;
            }
            if (c == 5) {
                return f < 4 ? 5 + f : NONE;
            }
            if (c == 6) {
                return f < 6 ? 9 + f : NONE;
            }
            if (c < 39) {
                return c + 8;
            }
            if (c == 39) {
                return f < 10 ? 47 + f : NONE;
            }
            if (c < 48) {
                return f < 6 ? 57 + 6 * (c - 40) + f : NONE;
            }
            if (c < 56) {
                return f < 4 ? 105 + 4 * (c - 48) + f : NONE;
            }
            return c + 81;
        }

        static int cOf(int op) {
            if (op < 5) {
                return op;
            }
            if (op < 15) {
                return op < 9 ? 5 : 6;
            }
            if (op < 47) {
                return op - 8;
            }
            if (op < 57) {
                return 39;
            }
            if (op < 105) {
                return 40 + (op - 57) / 6;
            }
            return op < 137 ? 48 + (op - 105) / 4 : op - 81;
        }

        /** The F that an operation's name stands for. */
        static int fOf(int op) {
            int c = cOf(op);
            if (c >= 34 && c <= 38) {
                return 0;
            }
            if (c == 5 || c == 6) {
                return c == 5 ? op - 5 : op - 9;
            }
            if (c == 7) {
                return 1;
            }
            if (c == 32) {
                return 2;
            }
            if (c == 39) {
                return op - 47;
            }
            if (c >= 40 && c <= 47) {
                return (op - 57) % 6;
            }
            return c >= 48 && c <= 55 ? (op - 105) % 4 : 5;
        }
    }

    /** The lines of a text, one behind the other, read as letters. */
    private static final class Text {
        static final int COLUMNS = 80;
        final byte[] bytes;
        final byte[] row = new byte[COLUMNS];
        int from;
        int length;
        int next;
        int line;
        private int first;
        private int limit;

        Text(byte[] bytes) {
            this.bytes = bytes;
        }

        void open(int start, int stop) {
            first = Math.max(start, 0);
            limit = Math.min(stop, bytes.length);
            reopen();
        }

        void reopen() {
            next = first;
            line = 0;
        }

        /** Goes to the next line; false behind the last one, where line is one more. */
        boolean advance() {
            line++;
            if (next >= limit) {
                return false;
            }
            from = next;
            int stop = from;
            while (stop < limit && bytes[stop] != '\n') {
                stop++;
            }
            next = stop + 1;
            length = Math.min(stop - from, COLUMNS);
            for (int i = 0; i < COLUMNS; i++) {
                row[i] = (byte) (i < length ? Codes.written(Codes.code(bytes[from + i])) : ' ');
            }
            return true;
        }

        boolean isAt(int column, String word) {
            for (int i = 0; i < word.length(); i++) {
                if (column + i >= COLUMNS || row[column + i] != word.charAt(i)) {
                    return false;
                }
            }
            return true;
        }

        boolean isBlankAt(int column) {
            return column >= COLUMNS || column >= 0 && row[column] == ' ';
        }

        boolean isDigitAt(int column) {
            return column >= 0 && column < COLUMNS && row[column] >= '0' && row[column] <= '9';
        }

        /** The number that so many digits are; NONE when one of them is none. */
        long digits(int column, int count) {
            long n = 0;
            for (int i = column; i < column + count; i++) {
                if (!isDigitAt(i)) {
                    return NONE;
                }
                n = 10 * n + row[i] - '0';
            }
            return n;
        }
    }

    /** What a punch, printer or typewriter has written, and the line that is in the making. */
    private static final class Paper {
        static final int WIDTH = 120;
        static final int LINES = 300;
        private final byte[][] rows = new byte[LINES][];
        private final int[] lengths = new int[LINES];
        private final byte[] row = new byte[WIDTH];
        int written;

        Paper() {
            for (int i = 0; i < WIDTH; i++) {
                row[i] = ' ';
            }
        }

        void mark(int column, int letter) {
            if (column >= 1 && column <= WIDTH) {
                row[column - 1] = (byte) letter;
            }
        }

        void text(int column, String s) {
            for (int i = 0; i < s.length(); i++) {
                mark(column + i, s.charAt(i));
            }
        }

        void copy(int column, byte[] letters) {
            for (int i = 0; i < letters.length; i++) {
                mark(column + i, letters[i]);
            }
        }

        void digits(int column, int count, long n) {
            long rest = n;
            for (int i = column + count - 1; i >= column; i--) {
                mark(i, '0' + (int) (rest % 10));
                rest /= 10;
            }
        }

        /** A word's sign, and so many digits behind it. */
        void signed(int column, int count, int w) {
            mark(column, (w & Codes.SIGN) != 0 ? '-' : '+');
            digits(column + 1, count, w & Codes.FULL);
        }

        void operation(int column, int w) {
            int op = Codes.opOf(Codes.byteOf(w, 5), Codes.byteOf(w, 4));
            for (int i = 0; i < 4; i++) {
                mark(column + i, op >= 0 ? Codes.opLetter(op, i) : i == 0 ? '?' : ' ');
            }
        }

        void name(int column, long name) {
            for (int i = 0; i < 10; i++) {
                mark(column + i, Codes.letterOf((int) (name >> 6 * (9 - i) & 63)));
            }
        }

        /** The line is written, up to a width, without blanks at its end. */
        void finish(int width, boolean plain) {
            int length = 0;
            for (int i = 0; i < WIDTH && i < width; i++) {
                if (plain && row[i] == '?') {
                    row[i] = ' ';
                }
                if (row[i] != ' ') {
                    length = i + 1;
                }
            }
            if (written < LINES) {
                if (rows[written] == null) {
                    rows[written] = new byte[WIDTH];
                }
                System.arraycopy(row, 0, rows[written], 0, length);
                lengths[written] = length;
                written++;
            }
            Arrays.fill(row, (byte) ' ');
        }

        int letterAt(int k, int i) {
            if (k < 0 || k >= written || i < 0 || i >= lengths[k] || rows[k] == null) {
                return NONE;
            }
            return rows[k][i] & 255;
        }
    }

    /** The reader's cards, one behind the other, each with a newline behind it. */
    private static final class Reader {
        static final int MOST = 400;
        private static final int POOL = MOST * (Text.COLUMNS + 1);
        // Most objects never read a card: the pool is made with the first one.
        private byte[] pool;
        private int head;
        private int tail;
        int left;

        void empty() {
            head = 0;
            tail = 0;
            left = 0;
        }

        void add(Text card) {
            if (pool == null) {
                pool = new byte[POOL];
            }
            if (tail + card.length >= POOL) {
                System.arraycopy(pool, head, pool, 0, tail - head);
                tail -= head;
                head = 0;
            }
            if (tail + card.length < POOL) {
                System.arraycopy(card.bytes, card.from, pool, tail, card.length);
                tail += card.length;
                pool[tail] = '\n';
                tail++;
                left++;
            }
        }

        /** Whether there is a card; behind a card with * in column 1 there may be none. */
        boolean hasCard(boolean guarded) {
            return left > 0 && pool != null && head < tail && !(guarded && pool[head] == '*');
        }

        void take(int[] words, int at) {
            if (!hasCard(false)) {
                return;
            }
            for (int i = at; i < at + 16; i++) {
                int w = 0;
                for (int k = 0; k < 5; k++) {
                    w <<= 6;
                    if (head < tail && pool[head] != '\n') {
                        w |= Codes.code(pool[head]);
                        head++;
                    }
                }
                if (i >= 0 && i < words.length) {
                    words[i] = w;
                }
            }
            head++;
            left--;
        }
    }

    /** Tapes, disks, reader, punch, printer and typewriter, which work beside the machine. */
    private static final class Units {
        static final int TAPES = 8;
        static final int BLOCKS = 64;
        static final int BLOCK = 100;
        static final int IOC = 35;
        static final int IN = 36;
        static final int OUT = 37;
        private static final int UNITS = 20;

        private final int[] memory;
        // A tape or disk that nothing was written to has no row: it is all +0.
        private final int[][] media = new int[READER][];
        final int[] stands = new int[TAPES];
        private final long[] freeAt = new long[UNITS];
        private final long[] began = new long[READER + 1];
        private final boolean[] coming = new boolean[READER + 1];
        private final int[] target = new int[READER + 1];
        private final int[] words = new int[(READER + 1) * BLOCK];
        private int under;
        final Reader reader = new Reader();
        final Paper punch = new Paper();
        final Paper printer = new Paper();
        final Paper typewriter = new Paper();

        Units(int[] memory) {
            this.memory = memory;
        }

        Paper paper(int u) {
            if (u == PUNCH) {
                return punch;
            }
            return u == PRINTER ? printer : typewriter;
        }

        void free() {
            Arrays.fill(freeAt, 0);
            for (int u = 0; u <= READER; u++) {
                coming[u] = false;
            }
            under = 0;
        }

        void rewind() {
            Arrays.fill(stands, 0);
        }

        static int wordsOf(int u) {
            if (u < READER) {
                return BLOCK;
            }
            if (u <= PUNCH) {
                return 16;
            }
            if (u == PRINTER) {
                return 24;
            }
            return u == TYPEWRITER ? 14 : 1;
        }

        private static int busyFor(int u) {
            if (u < READER) {
                return u < TAPES ? 500 : 400;
            }
            if (u == READER) {
                return 1000;
            }
            if (u == PUNCH) {
                return 1500;
            }
            return u == PRINTER ? 750 : 900;
        }

        boolean isBusy(int u, long time) {
            return waiting(u, time) > 0;
        }

        /** How long it is till the unit is free; 0 for none. */
        long waiting(int u, long time) {
            return u >= 0 && u < UNITS ? Math.max(freeAt[u] - time, 0) : 0;
        }

        int stored(int u, int i) {
            boolean there = u >= 0 && u < READER && i >= 0 && i < BLOCKS * BLOCK && media[u] != null;
            return there ? media[u][i] : 0;
        }

        void store(int u, int i, int w) {
            if (u < 0 || u >= READER || i < 0 || i >= BLOCKS * BLOCK) {
                return;
            }
            if (media[u] == null) {
                media[u] = new int[BLOCKS * BLOCK];
            }
            media[u][i] = w;
        }

        /** The fault 5 or 6 that an operation would meet; 0 for none. */
        int faultOf(int c, int u, int m, int x, boolean guarded) {
            if (u < 0 || u >= UNITS) {
                return 5;
            }
            if (u < TAPES) {
                return c != IOC && stands[u] >= BLOCKS ? 6 : 0;
            }
            if (u < READER) {
                if (c == IOC && m != 0) {
                    return 5;
                }
                return x < 0 || x >= BLOCKS ? 6 : 0;
            }
            if (u == READER) {
                if (c != IN) {
                    return 5;
                }
                return reader.hasCard(guarded) ? 0 : 6;
            }
            if (c == IOC) {
                return u == PRINTER && m == 0 ? 0 : 5;
            }
            return c == IN ? 5 : 0;
        }

        /** An operation without a fault begins. */
        void begin(int c, int u, int m, int x, long time) {
            if (u < 0 || u >= UNITS) {
                return;
            }
            settle(time);
            if (c == IOC) {
                turn(u, m);
            } else if (c == IN && u <= READER) {
                read(u, m, x);
                began[u] = time;
            } else if (u < READER) {
                writeBlock(u, m, x);
            } else {
                writeLine(paper(u), m, wordsOf(u));
            }
            freeAt[u] = time + busyFor(u);
        }

        private void turn(int u, int m) {
            if (u == PRINTER) {
                printer.mark(1, 12);
                printer.finish(Paper.WIDTH, false);
            } else if (u < TAPES) {
                stands[u] = m == 0 ? 0 : Math.min(Math.max(stands[u] + m, 0), BLOCKS);
            }
        }

        private int blockAt(int u, int x) {
            if (u >= TAPES) {
                return x;
            }
            stands[u]++;
            return stands[u] - 1;
        }

        private void read(int u, int m, int x) {
            coming[u] = true;
            target[u] = m;
            under++;
            if (u == READER) {
                reader.take(words, u * BLOCK);
                return;
            }
            int from = blockAt(u, x) * BLOCK;
            for (int i = 0; i < BLOCK; i++) {
                words[u * BLOCK + i] = stored(u, from + i);
            }
        }

        private void writeBlock(int u, int m, int x) {
            int to = blockAt(u, x) * BLOCK;
            for (int i = 0; i < BLOCK; i++) {
                store(u, to + i, wordAt(m + i));
            }
        }

        private void writeLine(Paper paper, int m, int count) {
            for (int i = 0; i < count; i++) {
                int w = wordAt(m + i);
                for (int k = 1; k <= 5; k++) {
                    paper.mark(5 * i + k, Codes.written(Codes.byteOf(w, k)));
                }
            }
            paper.finish(Paper.WIDTH, false);
        }

        private int wordAt(int address) {
            int i = address + Machine.HIGH;
            return i >= 0 && i < memory.length ? memory[i] : 0;
        }

        /** What is done by a time comes into memory. */
        void settle(long time) {
            for (int k = 0; k <= READER && under > 0; k++) {
                int u = firstDone(time);
                if (u < 0) {
                    return;
                }
                coming[u] = false;
                under--;
                int to = target[u] + Machine.HIGH;
                for (int i = 0; i < wordsOf(u); i++) {
                    if (to + i >= 0 && to + i < memory.length) {
                        memory[to + i] = words[u * BLOCK + i];
                    }
                }
            }
        }

        private int firstDone(long time) {
            int first = NONE;
            for (int u = 0; u <= READER; u++) {
                if (coming[u] && freeAt[u] <= time && (first < 0 || isAhead(u, first))) {
                    first = u;
                }
            }
            return first;
        }

        private boolean isAhead(int u, int other) {
            return freeAt[u] < freeAt[other] || freeAt[u] == freeAt[other] && began[u] < began[other];
        }
    }

    /** Memory, registers and instructions. */
    private static final class Machine {
        static final int HIGH = 3999;
        static final int WORDS = 2 * HIGH + 1;
        static final int RUNS = 0;
        static final int HALTED = 1;
        static final int NOTHING = 9;
        static final long FOREVER = 1L << 60;
        private static final int OUT_OF_TIME = 9;
        private static final int X = 7;
        private static final int J = 8;
        private static final int CLOCK = HIGH - 10;

        final int[] memory;
        final int[] registers = new int[9];
        private final Units units;
        boolean overflow;
        int comparison;
        int counter;
        long time;
        long limit;
        int status = NOTHING;
        private boolean watched;
        private boolean control;
        int latest;
        int latestAt;
        private int c;
        private int f;
        private int m;

        Machine(int[] memory, Units units) {
            this.memory = memory;
            this.units = units;
        }

        /** Memory, registers and time as at first, units free, and nothing to run. */
        void clear() {
            Arrays.fill(memory, 0);
            Arrays.fill(registers, 0);
            units.free();
            overflow = false;
            comparison = 0;
            counter = 0;
            time = 0;
            status = NOTHING;
            watched = false;
            control = false;
        }

        void start(int address) {
            counter = address;
            watched = address < 0;
            control = watched;
            limit = FOREVER;
            status = RUNS;
        }

        private boolean isAddress(int a) {
            return a >= (control ? -HIGH : 0) && a <= HIGH;
        }

        private boolean areAddresses(int a, int count) {
            return isAddress(a) && isAddress(a + count - 1);
        }

        private int load(int a) {
            int i = a + HIGH;
            return i >= 0 && i < memory.length ? memory[i] : 0;
        }

        private void save(int a, int w) {
            int i = a + HIGH;
            if (i >= 0 && i < memory.length) {
                memory[i] = w;
            }
        }

        /** Looks at the next instruction: whether it was done. */
        boolean advance() {
            if (!isAddress(counter)) {
                stop(2);
                return false;
            }
            latestAt = counter;
            latest = load(counter);
            if (!decode()) {
                stop(1);
                return false;
            }
            boolean clocked = watched && !control;
            long waiting = c >= Units.IOC && c <= Units.OUT ? units.waiting(f, time) : 0;
            long u = cost() + waiting;
            if (clocked && u > Codes.value(memory[CLOCK])) {
                interrupt(OUT_OF_TIME);
                return false;
            }
            if (time + u > limit) {
                status = NOTHING;
                units.settle(FOREVER);
                return false;
            }
            int fault = faultAhead();
            if (fault != 0) {
                stop(fault);
                return false;
            }
            perform(time + waiting);
            time += u;
            units.settle(time);
            if (clocked) {
                memory[CLOCK] = less(memory[CLOCK], u);
            }
            if (c == 5 && f == 2) {
                stop(0);
            }
            return true;
        }

        private static int less(int w, long u) {
            int left = Codes.wordOf(Codes.value(w) - u);
            return left == Codes.SIGN ? 0 : left;
        }

        /** What stops the machine (0 for HLT, else a fault) interrupts a watched program. */
        private void stop(int why) {
            if (watched && !control) {
                interrupt(why);
                return;
            }
            status = why + 1;
            units.settle(FOREVER);
        }

        private void interrupt(int why) {
            for (int k = 0; k <= X; k++) {
                save(k - 9, registers[k]);
            }
            int third = comparison + 1 + (overflow ? 8 : 0);
            save(-1, (registers[J] & Codes.TWO_BYTES) << 18 | third << 12 | counter & Codes.TWO_BYTES);
            save(-11, why);
            control = true;
            counter = -12;
        }

        private void returnToNormal() {
            for (int k = 0; k <= X; k++) {
                int w = load(k - 9);
                registers[k] = k == 0 || k == X ? w : w & (Codes.SIGN | Codes.TWO_BYTES);
            }
            int w = load(-1);
            int third = Codes.byteOf(w, 3);
            registers[J] = w >> 18 & Codes.TWO_BYTES;
            overflow = third >= 8;
            comparison = Math.min(third % 8, 2) - 1;
            counter = w & Codes.TWO_BYTES;
            control = false;
        }

        /** Takes the latest word apart; false when it is no instruction. */
        private boolean decode() {
            int index = Codes.byteOf(latest, 3);
            f = Codes.byteOf(latest, 4);
            c = Codes.byteOf(latest, 5);
            if (index > 6 || Codes.opOf(c, f) < 0) {
                return false;
            }
            int address = latest >> 18 & Codes.TWO_BYTES;
            m = (latest & Codes.SIGN) != 0 ? -address : address;
            if (index > 0) {
                m += Codes.value(registers[index]);
            }
            return c != 5 || f != 3 || control;
        }

        private int cost() {
            if (c == 3 || c == 5) {
                return c == 5 && f == 3 ? 2 : 10;
            }
            if (c == 4) {
                return 12;
            }
            if (c == 7) {
                return 1 + 2 * f;
            }
            return c == 0 || c >= 34 && c <= 55 ? 1 : 2;
        }

        /** The fault from 2 on that the instruction would meet; 0 for none. */
        private int faultAhead() {
            if (c == 0 || c == 5) {
                return 0;
            }
            if (c == 6) {
                return m < 0 ? 2 : 0;
            }
            if (c == 7) {
                boolean stays = f == 0 || areAddresses(m, f) && areAddresses(Codes.value(registers[1]), f);
                return stays ? 0 : 2;
            }
            if (c <= 33 || c >= 56) {
                return faultOfField();
            }
            if (c >= 48) {
                return isIndex(c - 48) && Math.abs(entered()) > Codes.TWO_BYTES ? 4 : 0;
            }
            if (c >= Units.IOC && c <= Units.OUT) {
                return faultOfUnit();
            }
            if (c < 39 && f > TYPEWRITER) {
                return 5;
            }
            return jumps() && !isAddress(m) ? 7 : 0;
        }

        private int faultOfField() {
            if (!isAddress(m)) {
                return 2;
            }
            if (!Codes.isField(f)) {
                return 3;
            }
            boolean loads = c >= 8 && c <= 23 && isIndex(c & 7);
            return loads && (Codes.field(load(m), f) & Codes.FULL) > Codes.TWO_BYTES ? 4 : 0;
        }

        private int faultOfUnit() {
            if (c != Units.IOC && !areAddresses(m, Units.wordsOf(f))) {
                return 2;
            }
            return units.faultOf(c, f, m, Codes.value(registers[X]), watched && !control);
        }

        private static boolean isIndex(int k) {
            return k >= 1 && k <= 6;
        }

        /** The number that INC, DEC, ENT or ENN gives an index register. */
        private int entered() {
            int k = c - 48;
            int old = k >= 0 && k <= X ? Codes.value(registers[k]) : 0;
            if (f == 0) {
                return old + m;
            }
            return f == 1 ? old - m : m;
        }

        private boolean jumps() {
            if (c == 34 || c == 38) {
                return units.isBusy(f, time) == (c == 34);
            }
            if (c == 39) {
                if (f < 2) {
                    return true;
                }
                return f < 4 ? overflow == (f == 2) : holds(f - 4, comparison);
            }
            return c >= 40 && c <= 47 && holds(f, Codes.value(registers[c - 40]));
        }

        private static boolean holds(int test, int v) {
            switch (test) {
                case 0:
                    return v < 0;
                case 1:
                    return v == 0;
                case 2:
                    return v > 0;
                case 3:
                    return v >= 0;
                case 4:
                    return v != 0;
                default:
                    return v <= 0;
            }
        }

        /** Does the instruction; a unit's operation begins at the time that is told. */
        private void perform(long begin) {
            int behind = counter + 1;
            boolean jump = jumps();
            counter = jump ? m : behind;
            if (jump && (c != 39 || f != 1)) {
                registers[J] = Codes.wordOf(behind);
            }
            if (c == 39 && (f == 2 || f == 3)) {
                overflow = false;
            } else if (c >= 1 && c <= 4) {
                reckon(Codes.field(load(m), f));
            } else if (c == 5) {
                convert();
            } else if (c == 6) {
                shift();
            } else if (c == 7) {
                move();
            } else if (c >= 8 && c <= 23) {
                registers[c & 7] = Codes.field(load(m), f) ^ (c >= 16 ? Codes.SIGN : 0);
            } else if (c >= 24 && c <= 33) {
                save(m, Codes.stored(load(m), f, c == 33 ? 0 : registers[c - 24]));
            } else if (c >= Units.IOC && c <= Units.OUT) {
                units.begin(c, f, m, Codes.value(registers[X]), begin);
            } else if (c >= 48 && c <= 55) {
                enter(c - 48);
            } else if (c >= 56) {
                int a = Codes.value(Codes.field(registers[c - 56], f));
                comparison = Integer.compare(a, Codes.value(Codes.field(load(m), f)));
            }
        }

        private void reckon(int v) {
            if (c <= 2) {
                add(0, c == 1 ? Codes.value(v) : -Codes.value(v));
                return;
            }
            long a = registers[0] & Codes.FULL;
            long by = v & Codes.FULL;
            int had = registers[0] & Codes.SIGN;
            int sign = had ^ v & Codes.SIGN;
            if (c == 3) {
                registers[0] = sign | (int) (a * by >> 30);
                registers[X] = sign | (int) (a * by & Codes.FULL);
                return;
            }
            if (by == 0 || a >= by) {
                overflow = true;
                return;
            }
            long both = a << 30 | registers[X] & Codes.FULL;
            registers[0] = sign | (int) (both / by);
            registers[X] = had | (int) (both % by);
        }

        private void add(int k, int v) {
            long sum = (long) Codes.value(registers[k]) + v;
            if (Math.abs(sum) > Codes.FULL) {
                overflow = true;
            }
            registers[k] = sum == 0 ? registers[k] & Codes.SIGN : Codes.wordOf(sum);
        }

        private void convert() {
            if (f == 0) {
                long n = 0;
                for (int k = 1; k <= 10; k++) {
                    int w = k <= 5 ? registers[0] : registers[X];
                    n = 10 * n + Codes.byteOf(w, k <= 5 ? k : k - 5) % 10;
                }
                registers[0] = registers[0] & Codes.SIGN | (int) (n & Codes.FULL);
            } else if (f == 1) {
                long bytes = 0;
                int rest = registers[0] & Codes.FULL;
                for (int k = 0; k < 10; k++) {
                    bytes |= (long) (30 + rest % 10) << 6 * k;
                    rest /= 10;
                }
                spread(bytes);
            } else if (f == 3) {
                returnToNormal();
            }
        }

        /** Ten bytes come into A and X, whose signs stay. */
        private void spread(long bytes) {
            registers[0] = registers[0] & Codes.SIGN | (int) (bytes >> 30 & Codes.FULL);
            registers[X] = registers[X] & Codes.SIGN | (int) (bytes & Codes.FULL);
        }

        private void shift() {
            long a = registers[0] & Codes.FULL;
            long x = registers[X] & Codes.FULL;
            long both = a << 30 | x;
            int bits = 6 * Math.min(m, 10);
            if (f < 2) {
                long moved = f == 0 ? a << Math.min(bits, 30) : a >> bits;
                registers[0] = registers[0] & Codes.SIGN | (int) (moved & Codes.FULL);
            } else if (f < 4) {
                spread(f == 2 ? both << bits : both >> bits);
            } else {
                int round = 6 * (m % 10);
                int left = f == 4 ? round : 60 - round;
                spread(both << left | both >> 60 - left);
            }
        }

        private void move() {
            int to = Codes.value(registers[1]);
            for (int i = 0; i < f; i++) {
                save(to + i, load(m + i));
            }
            add(1, f);
        }

        private void enter(int k) {
            if (f < 2) {
                add(k, f == 0 ? m : -m);
                return;
            }
            int w = m == 0 ? latest & Codes.SIGN : Codes.wordOf(m);
            registers[k] = f == 2 ? w : w ^ Codes.SIGN;
        }
    }

    /** The symbols of an assembling, where they are read, and the uses of what is to come. */
    private static final class Symbols {
        static final int OPEN = 0;
        static final int COMING = 1;
        static final int DEFINED = 2;
        // What a use is of: a symbol's number, or one of these, or PENDING - n for nF.
        static final int LITERAL = -1;
        static final int KNOWN = -2;
        static final int PENDING = -10;
        private static final int MOST = 1024;
        private static final int MOST_READS = 4096;
        private static final int MOST_USES = 512;

        final long[] names = new long[MOST];
        final int[] values = new int[MOST];
        private final int[] standings = new int[MOST];
        int count;
        private final int[] readOf = new int[MOST_READS];
        private final int[] readIn = new int[MOST_READS];
        private int reads;
        final int[] local = new int[10];
        final boolean[] hasLocal = new boolean[10];
        final int[] useAt = new int[MOST_USES];
        final int[] useOf = new int[MOST_USES];
        final int[] useWord = new int[MOST_USES];
        int uses;

        void clear() {
            count = 0;
            reads = 0;
            uses = 0;
            for (int n = 0; n < 10; n++) {
                hasLocal[n] = false;
            }
        }

        int find(long name) {
            for (int i = 0; i < count; i++) {
                if (names[i] == name) {
                    return i;
                }
            }
            return NONE;
        }

        int standing(int i) {
            return i >= 0 && i < count ? standings[i] : OPEN;
        }

        void stand(int i, int standing, int value) {
            if (i >= 0 && i < count) {
                standings[i] = standing;
                values[i] = value;
            }
        }

        int enter(long name) {
            int i = find(name);
            if (i >= 0 || count >= MOST) {
                return i;
            }
            names[count] = name;
            standings[count] = OPEN;
            count++;
            return count - 1;
        }

        /** nH has a value: the uses of nF ahead of it are known. */
        void enterLocal(int n, int value) {
            if (n < 0 || n >= 10) {
                return;
            }
            local[n] = value;
            hasLocal[n] = true;
            for (int k = 0; k < uses; k++) {
                if (useOf[k] == PENDING - n) {
                    useOf[k] = KNOWN;
                    useWord[k] = value;
                }
            }
        }

        void addUse(int at, int of, int word) {
            if (uses < MOST_USES) {
                useAt[uses] = at;
                useOf[uses] = of;
                useWord[uses] = word;
                uses++;
            }
        }

        void noteRead(int i, int line) {
            for (int k = reads - 1; k >= 0 && readIn[k] == line; k--) {
                if (readOf[k] == i) {
                    return;
                }
            }
            if (reads < MOST_READS) {
                readOf[reads] = i;
                readIn[reads] = line;
                reads++;
            }
        }

        /** The next entry from k on that tells a line in which symbol i is read; NONE behind the last. */
        int nextRead(int i, int k) {
            for (int at = Math.max(k, 0); at < reads; at++) {
                if (readOf[at] == i) {
                    return at;
                }
            }
            return NONE;
        }

        int lineOfRead(int k) {
            return k >= 0 && k < reads ? readIn[k] : 0;
        }

        /** The defined symbol whose name comes next behind a name; NONE behind the last. */
        int nextInOrder(long name) {
            int next = NONE;
            for (int i = 0; i < count; i++) {
                boolean behind = standings[i] == DEFINED && names[i] > name;
                if (behind && (next < 0 || names[i] < names[next])) {
                    next = i;
                }
            }
            return next;
        }
    }

    /** Reads names, expressions and W-values from the columns of a line. */
    private static final class Parser {
        static final int BAD = 0;
        static final int NUMBER = 1;
        static final int SYMBOL = 2;
        static final int HERE = 3;
        static final int BACK = 4;
        static final int AHEAD = 5;

        private final byte[] row;
        private final Symbols symbols;
        private int at;
        private int stop;
        int wrong;
        int place;
        int line;
        long name;
        int digit;
        private long number;

        Parser(byte[] row, Symbols symbols) {
            this.row = row;
            this.symbols = symbols;
        }

        /** Begins at ADDRESS, which ends ahead of the first space. */
        void open(int placeNow, int lineNow) {
            at = 16;
            stop = at;
            while (stop < row.length && row[stop] != ' ') {
                stop++;
            }
            wrong = 0;
            place = placeNow;
            line = lineNow;
        }

        int letterHere() {
            return at >= 0 && at < stop && at < row.length ? row[at] : ' ';
        }

        boolean isAtEnd() {
            return at >= stop;
        }

        /** Goes over a letter if it is here. */
        boolean pass(int letter) {
            boolean isHere = at >= 0 && at < stop && at < row.length && row[at] == letter;
            at += isHere ? 1 : 0;
            return isHere;
        }

        void fail(int kind) {
            if (wrong == 0) {
                wrong = kind;
            }
        }

        /** How many letters columns from .. to - 1 hold; 0 when blank, NONE when they stand wrong. */
        int sizeOf(int from, int to) {
            int size = 0;
            for (int i = from; i < to && i < row.length; i++) {
                if (row[i] != ' ') {
                    if (size != i - from) {
                        return NONE;
                    }
                    size++;
                }
            }
            return size;
        }

        /** What kind of LOC so many columns are. */
        int labelKind(int size) {
            at = 0;
            stop = size;
            int kind = token();
            return isAtEnd() && (kind == SYMBOL || kind == HERE) ? kind : BAD;
        }

        /** Reads letters and digits, as many as there are. */
        private int token() {
            int size = 0;
            int letters = 0;
            int c = 0;
            name = 0;
            number = 0;
            for (; at < stop && at < row.length; at++) {
                boolean isLetter = row[at] >= 'A' && row[at] <= 'Z';
                if (!isLetter && (row[at] < '0' || row[at] > '9')) {
                    break;
                }
                c = row[at];
                size++;
                letters += isLetter ? 1 : 0;
                if (size <= 10) {
                    // The same numbers as Codes.rank has, so that names can be compared.
                    name = name << 6 | (isLetter ? c - 'A' + 11 : c - '0' + 1);
                    number = 10 * number + c - '0';
                }
                digit = size == 1 ? c - '0' : digit;
            }
            if (size == 0 || size > 10) {
                return BAD;
            }
            name <<= 6 * (10 - size);
            if (letters == 0) {
                return NUMBER;
            }
            if (size == 2 && digit < 10 && (c == 'H' || c == 'B' || c == 'F')) {
                return c == 'H' ? HERE : c == 'B' ? BACK : AHEAD;
            }
            return SYMBOL;
        }

        /** Passes a future symbol that stands alone: its kind, or BAD, passing nothing. */
        int future() {
            int from = at;
            int kind = token();
            boolean alone = isAtEnd() || operatorSize() == 0;
            boolean isOpen = kind == SYMBOL && symbols.standing(symbols.find(name)) == Symbols.OPEN;
            if (alone && (isOpen || kind == AHEAD)) {
                return kind;
            }
            at = from;
            return BAD;
        }

        private int operatorSize() {
            int c = letterHere();
            if (c == '/' && at + 1 < stop && at + 1 < row.length && row[at + 1] == '/') {
                return 2;
            }
            return c == '+' || c == '-' || c == '*' || c == '/' || c == ':' ? 1 : 0;
        }

        private int atom() {
            if (pass('*')) {
                return Codes.wordOf(place);
            }
            int kind = token();
            if (kind == NUMBER && number <= Codes.FULL) {
                return (int) number;
            }
            if (kind == SYMBOL) {
                int i = symbols.find(name);
                if (i >= 0 && symbols.standing(i) != Symbols.OPEN) {
                    symbols.noteRead(i, line);
                    return symbols.values[i];
                }
            }
            if (kind == BACK && digit >= 0 && digit < 10 && symbols.hasLocal[digit]) {
                return symbols.local[digit];
            }
            fail(kind == SYMBOL || kind == BACK || kind == AHEAD ? 4 : 1);
            return 0;
        }

        int expression() {
            boolean turned = letterHere() == '-';
            if (turned || letterHere() == '+') {
                at++;
            }
            int w = atom() ^ (turned ? Codes.SIGN : 0);
            for (int k = 0; k < Text.COLUMNS && wrong == 0; k++) {
                int size = operatorSize();
                if (size == 0) {
                    break;
                }
                int operator = size == 2 ? '2' : letterHere();
                at += size;
                int b = atom();
                if (wrong == 0) {
                    w = combine(Codes.value(w), operator, Codes.value(b));
                }
            }
            return w;
        }

        private int combine(long a, int operator, long b) {
            long result = 0;
            if (operator == '+') {
                result = a + b;
            } else if (operator == '-') {
                result = a - b;
            } else if (operator == '*') {
                result = a * b;
            } else if (operator == ':') {
                result = 8 * a + b;
            } else if (b == 0) {
                fail(5);
            } else {
                result = (operator == '2' ? a * (Codes.FULL + 1L) : a) / b;
            }
            if (Math.abs(result) > Codes.FULL) {
                fail(5);
            }
            return Codes.wordOf(result);
        }

        int wValue() {
            int w = 0;
            for (int k = 0; k < Text.COLUMNS; k++) {
                int part = expression();
                int f = 5;
                if (wrong == 0 && pass('(')) {
                    f = Codes.value(expression());
                    if (!Codes.isField(f)) {
                        fail(5);
                    }
                    need(')');
                }
                if (wrong != 0) {
                    return 0;
                }
                w = Codes.stored(w, f, part);
                if (!pass(',')) {
                    break;
                }
            }
            return w;
        }

        /** A number from 0 to the greatest one. */
        int bounded(int greatest) {
            int n = Codes.value(expression());
            if (n < 0 || n > greatest) {
                fail(5);
            }
            return n;
        }

        /** A that is told by an expression. */
        int address() {
            int a = expression();
            if ((a & Codes.FULL) > Codes.TWO_BYTES) {
                fail(5);
            }
            return a;
        }

        void need(int letter) {
            if (!pass(letter)) {
                fail(1);
            }
        }

        void finish() {
            if (!isAtEnd()) {
                fail(1);
            }
        }
    }

    /** Assembles a text into memory. */
    private static final class Assembler {
        private static final int MOST_PUTS = 1024;
        private static final int NOWHERE = 9999;

        final Text text;
        private final int[] memory;
        final Symbols symbols;
        private final Parser parser;
        private final long[] touched = new long[63];
        private final int[] putIn = new int[MOST_PUTS];
        private final int[] putAt = new int[MOST_PUTS];
        private int puts;
        private final int[] localAt = new int[10];
        private int location;
        private int lowest;
        private int op;
        private int label;
        private long labelName;
        private int labelDigit;
        int lines;
        int words;
        int start;
        int kind;
        boolean whole;

        Assembler(Text text, int[] memory, Symbols symbols) {
            this.text = text;
            this.memory = memory;
            this.symbols = symbols;
            this.parser = new Parser(text.row, symbols);
        }

        /** Begins with a part of the text; a job's addresses are not below 0. */
        void open(int from, int to, boolean job) {
            text.open(from, to);
            symbols.clear();
            Arrays.fill(touched, 0);
            puts = 0;
            location = 0;
            lowest = job ? 0 : -Machine.HIGH;
            lines = 0;
            words = 0;
            start = 0;
            whole = false;
        }

        void close(int wrong) {
            kind = wrong;
            whole = wrong == 0;
        }

        boolean isTouched(int a) {
            return a >= 0 && a <= Machine.HIGH && (touched[a >> 6] >> (a & 63) & 1) != 0;
        }

        /** The entry of the word that a line put; NONE when it put none. */
        int putOf(int line) {
            for (int k = 0; k < puts; k++) {
                if (putIn[k] == line) {
                    return putAt[k];
                }
            }
            return NOWHERE;
        }

        /** Goes on to the next line that has an error: its kind; 0 when the text has ended. */
        int nextWrong() {
            for (int k = 0; k <= TAPE && lines == 0; k++) {
                if (!text.advance()) {
                    lines = text.line;
                    return 7;
                }
                int wrong = takeApart();
                if (wrong == 0 && op >= 0) {
                    wrong = op < Codes.EQU ? workInstruction() : op == Codes.END ? workEnd() : workOther();
                }
                if (wrong != 0) {
                    return wrong;
                }
            }
            return 0;
        }

        /** Finds the line's LOC and OP (NONE for a remark): the error that they have. */
        private int takeApart() {
            op = NONE;
            label = Parser.BAD;
            int loc = parser.sizeOf(0, 10);
            int size = parser.sizeOf(11, 15);
            if (text.row[0] == '*' || loc == 0 && size == 0) {
                return 0;
            }
            if (loc != 0) {
                label = parser.labelKind(loc);
                labelName = parser.name;
                labelDigit = parser.digit;
            }
            if (size < 0 || loc != 0 && label == Parser.BAD) {
                return 1;
            }
            op = findOp();
            if (op < 0) {
                return 2;
            }
            if (op >= Codes.REFUSED) {
                return 8;
            }
            if (label == Parser.SYMBOL && symbols.standing(symbols.find(labelName)) == Symbols.DEFINED) {
                return 3;
            }
            parser.open(location, text.line);
            return 0;
        }

        private int findOp() {
            for (int k = 0; k < Codes.OPS; k++) {
                int same = 0;
                while (same < 4 && text.row[11 + same] == Codes.opLetter(k, same)) {
                    same++;
                }
                if (same == 4) {
                    return k;
                }
            }
            return NONE;
        }

        private int workInstruction() {
            int a = 0;
            int literal = 0;
            int future = Parser.BAD;
            boolean isLiteral = parser.pass('=');
            if (isLiteral) {
                literal = parser.wValue();
                parser.need('=');
            } else if (!parser.isAtEnd() && parser.letterHere() != ',' && parser.letterHere() != '(') {
                future = parser.future();
                a = future == Parser.BAD ? parser.address() : 0;
            }
            long name = parser.name;
            int digit = parser.digit;
            int index = parser.pass(',') ? parser.bounded(6) : 0;
            int f = Codes.fOf(op);
            if (parser.pass('(')) {
                f = parser.bounded(63);
                parser.need(')');
            }
            parser.finish();
            if (parser.wrong != 0 || location > Machine.HIGH) {
                return parser.wrong != 0 ? parser.wrong : 6;
            }
            define(Codes.wordOf(location));
            if (isLiteral) {
                symbols.addUse(location, Symbols.LITERAL, literal);
            } else if (future == Parser.AHEAD) {
                symbols.addUse(location, Symbols.PENDING - digit, 0);
            } else if (future == Parser.SYMBOL) {
                int i = symbols.enter(name);
                symbols.noteRead(i, text.line);
                symbols.addUse(location, i, 0);
            }
            put(a & Codes.SIGN | (a & Codes.TWO_BYTES) << 18 | index << 12 | f << 6 | Codes.cOf(op));
            return 0;
        }

        private int workOther() {
            int w = 0;
            if (op == Codes.ALF) {
                for (int i = 16; i < 21; i++) {
                    w = w << 6 | Codes.code(text.row[i]);
                }
            } else {
                w = parser.wValue();
            }
            int n = Codes.value(w);
            if (op == Codes.ORIG && (n < lowest || n > Machine.HIGH + 1)) {
                parser.fail(5);
            }
            // From the left: a value's bounds come ahead of what is behind it.
            if (op != Codes.ALF) {
                parser.finish();
            }
            boolean isDue = op == Codes.CON || op == Codes.ALF;
            if (isDue && location > Machine.HIGH) {
                parser.fail(6);
            }
            if (parser.wrong != 0) {
                return parser.wrong;
            }
            define(op == Codes.EQU ? w : Codes.wordOf(location));
            if (op == Codes.ORIG) {
                location = n;
            } else if (isDue) {
                put(w);
            }
            return 0;
        }

        /** LOC, if there is one, gets its value. */
        private void define(int value) {
            if (label == Parser.SYMBOL) {
                symbols.stand(symbols.enter(labelName), Symbols.DEFINED, value);
            } else if (label == Parser.HERE) {
                symbols.enterLocal(labelDigit, value);
            }
        }

        private void put(int w) {
            if (puts < MOST_PUTS) {
                putIn[puts] = text.line;
                putAt[puts] = location;
                puts++;
            }
            lay(w);
        }

        /** A word comes to L, and L grows. */
        private void lay(int w) {
            int i = location + Machine.HIGH;
            if (i < 0 || i >= memory.length) {
                return;
            }
            memory[i] = w;
            if (location >= 0) {
                touched[location >> 6] |= 1L << (location & 63);
            }
            words++;
            location++;
        }

        private int workEnd() {
            int behind = placeComing();
            parser.place = behind;
            int n = Codes.value(parser.wValue());
            if (n < lowest || n > Machine.HIGH) {
                parser.fail(5);
            }
            parser.finish();
            if (parser.wrong != 0) {
                forgetComing();
                return parser.wrong;
            }
            lines = text.line;
            // L itself is within two bytes: a place behind that is one of a word that comes here.
            if (behind - 1 > Codes.TWO_BYTES || hasWideUse()) {
                return 5;
            }
            if (behind > location && behind > Machine.HIGH + 1) {
                return 6;
            }
            define(Codes.wordOf(location));
            layComing();
            start = n;
            return 0;
        }

        /** Gives places to literals and to what nothing defines, in order: the place behind them. */
        private int placeComing() {
            int labelled = label == Parser.SYMBOL ? symbols.find(labelName) : NONE;
            int at = location;
            Arrays.fill(localAt, NOWHERE);
            for (int k = 0; k < symbols.uses; k++) {
                int of = symbols.useOf[k];
                int n = Symbols.PENDING - of;
                if (of == Symbols.LITERAL) {
                    at++;
                } else if (of >= 0 && of != labelled && symbols.standing(of) == Symbols.OPEN) {
                    symbols.stand(of, Symbols.COMING, Codes.wordOf(at));
                    at++;
                } else if (n >= 0 && n < 10 && localAt[n] == NOWHERE && !(label == Parser.HERE && labelDigit == n)) {
                    localAt[n] = at;
                    at++;
                }
            }
            return at;
        }

        private void forgetComing() {
            for (int i = 0; i < symbols.count; i++) {
                if (symbols.standing(i) == Symbols.COMING) {
                    symbols.stand(i, Symbols.OPEN, 0);
                }
            }
        }

        /** Whether a symbol that is defined has a value beyond two bytes where it is to come. */
        private boolean hasWideUse() {
            for (int k = 0; k < symbols.uses; k++) {
                int of = symbols.useOf[k];
                int w = of == Symbols.KNOWN ? symbols.useWord[k] : 0;
                if (symbols.standing(of) == Symbols.DEFINED) {
                    w = symbols.values[of];
                }
                if ((w & Codes.FULL) > Codes.TWO_BYTES) {
                    return true;
                }
            }
            return false;
        }

        /** The words that come at END, each where it was placed, then all uses. */
        private void layComing() {
            for (int k = 0; k < symbols.uses; k++) {
                int of = symbols.useOf[k];
                int n = Symbols.PENDING - of;
                int here = Codes.wordOf(location);
                if (of == Symbols.LITERAL) {
                    lay(symbols.useWord[k]);
                    symbols.useWord[k] = here;
                } else if (of >= 0 && of < symbols.count) {
                    if (symbols.standing(of) == Symbols.COMING) {
                        lay(0);
                        symbols.stand(of, Symbols.DEFINED, here);
                    }
                    symbols.useWord[k] = symbols.values[of];
                } else if (n >= 0 && n < 10) {
                    if (localAt[n] == location) {
                        lay(0);
                    }
                    symbols.useWord[k] = Codes.wordOf(localAt[n]);
                }
            }
            for (int k = 0; k < symbols.uses; k++) {
                int i = symbols.useAt[k] + Machine.HIGH;
                if (i >= 0 && i < memory.length) {
                    memory[i] = Codes.stored(memory[i], 2, symbols.useWord[k]);
                }
            }
        }
    }

    /** Decks of jobs: their cards, and how each job ended. */
    private static final class Monitor {
        static final int MOST = 512;
        static final int HALT = 0;
        static final int LIMIT = 1;
        static final int FAULT = 2;
        static final int ERROR = 3;
        static final int CARD = 4;
        static final int SOURCE = 0;
        static final int LOAD = 1;
        static final int SAME = 2;
        static final int DUMP = 0;
        static final int LIST = 1;
        static final int NAMES = 2;
        static final int DECK = 3;
        static final int TRACE = 4;
        private static final int IMAGE = Machine.HIGH + 1;

        final Text deck;
        final byte[] name = new byte[10];
        int limit;
        private int options;
        int kind;
        int bodyFrom;
        int bodyTo;
        int dataFrom;
        int dataTo;
        int begins;
        int place;
        private final int[] entries = new int[4 * MOST];
        int count;
        // The latest program that ran, for *SAME; made with the first job.
        private int[] image;
        private int imageBegins;
        private boolean hasImage;

        Monitor(Text deck) {
            this.deck = deck;
        }

        void openAccounts() {
            count = 0;
            hasImage = false;
        }

        boolean wants(int option) {
            return (options >> option & 1) != 0;
        }

        /** Goes on to the next whole job: false when there is none. */
        boolean seek() {
            int phase = 0;
            for (int k = 0; k <= TAPE && deck.advance(); k++) {
                if (isJob()) {
                    phase = 1;
                } else if (phase == 1) {
                    phase = openBody();
                } else if (phase == 2 && isCard("*DATA")) {
                    phase = openData();
                } else if (phase == 3 && isCard("*END")) {
                    dataTo = deck.from;
                    return true;
                }
            }
            return false;
        }

        private int openBody() {
            kind = SOURCE;
            bodyFrom = deck.from;
            if (isCard("*DATA")) {
                return openData();
            }
            if (isCard("*LOAD")) {
                kind = LOAD;
                bodyFrom = deck.next;
            } else if (isCard("*SAME")) {
                kind = SAME;
            }
            return 2;
        }

        private int openData() {
            bodyTo = deck.from;
            dataFrom = deck.next;
            return 3;
        }

        private boolean isCard(String word) {
            return deck.isAt(0, word) && deck.isBlankAt(word.length());
        }

        /** Whether the card is a right *JOB line; the job is what it says then. */
        private boolean isJob() {
            if (!deck.isAt(0, "*JOB ")) {
                return false;
            }
            int size = 0;
            while (size < 11 && Codes.rank(deck.row[5 + size]) > 0) {
                size++;
            }
            int from = 6 + size;
            int digits = 0;
            while (digits < 6 && deck.isDigitAt(from + digits)) {
                digits++;
            }
            int found = optionsAt(from + digits);
            if (size < 1 || size > 10 || !deck.isBlankAt(from - 1) || digits < 1 || digits > 5 || found < 0) {
                return false;
            }
            for (int i = 0; i < 10; i++) {
                name[i] = i < size ? deck.row[5 + i] : (byte) ' ';
            }
            limit = (int) deck.digits(from, digits);
            options = found;
            return true;
        }

        private int optionsAt(int column) {
            int found = 0;
            int at = column;
            for (int option = DUMP; option <= TRACE; option++) {
                String word = wordOf(option);
                if (deck.isBlankAt(at) && deck.isAt(at + 1, word) && deck.isBlankAt(at + 1 + word.length())) {
                    found |= 1 << option;
                    at += 1 + word.length();
                }
            }
            while (at < Text.COLUMNS) {
                if (!deck.isBlankAt(at)) {
                    return NONE;
                }
                at++;
            }
            return found;
        }

        private static String wordOf(int option) {
            switch (option) {
                case DUMP:
                    return "DUMP";
                case LIST:
                    return "LIST";
                case NAMES:
                    return "NAMES";
                case DECK:
                    return "DECK";
                default:
                    return "TRACE";
            }
        }

        /** Loads the object cards: 0, or which one is none. */
        int load(Text cards, int[] memory) {
            cards.open(bodyFrom, bodyTo);
            for (int k = 0; k <= TAPE && cards.advance(); k++) {
                int count = (int) cards.digits(5, 1);
                int address = (int) cards.digits(6, 4);
                if (count < 0 || count > 7 || address < 0 || address + Math.max(count, 1) > IMAGE) {
                    return cards.line;
                }
                if (count == 0) {
                    begins = address;
                    return 0;
                }
                for (int i = 0; i < count; i++) {
                    int w = wordOn(cards, 10 + 10 * i);
                    int to = Machine.HIGH + address + i;
                    if (w < 0 || to >= memory.length) {
                        return cards.line;
                    }
                    memory[to] = w;
                }
            }
            return cards.line;
        }

        /** The word in ten columns; NONE when there is none. */
        private static int wordOn(Text card, int column) {
            long first = card.digits(column, 9);
            if (first < 0 || column + 9 >= Text.COLUMNS) {
                return NONE;
            }
            int letter = card.row[column + 9];
            int sign = Codes.SIGN;
            int last = letter - 'I';
            if (letter >= '0' && letter <= '9') {
                sign = 0;
                last = letter - '0';
            } else if (letter == '~') {
                last = 0;
            } else if (letter < 'J' || letter > 'R') {
                return NONE;
            }
            long magnitude = 10 * first + last;
            return magnitude <= Codes.FULL ? sign | (int) magnitude : NONE;
        }

        /** Keeps the program that is about to run. */
        void keep(int[] memory) {
            if (image == null) {
                image = new int[IMAGE];
            }
            System.arraycopy(memory, Machine.HIGH, image, 0, IMAGE);
            imageBegins = begins;
            hasImage = true;
        }

        /** Loads the program that was kept: 0, or 1 when there is none. */
        int again(int[] memory) {
            if (!hasImage || image == null) {
                return 1;
            }
            System.arraycopy(image, 0, memory, Machine.HIGH, IMAGE);
            begins = imageBegins;
            return 0;
        }

        void enter(int ended, int why, int u) {
            if (count < MOST) {
                entries[4 * count] = ended;
                entries[4 * count + 1] = why;
                entries[4 * count + 2] = place;
                entries[4 * count + 3] = u;
                count++;
            }
        }

        int entry(int k, int what) {
            return k >= 0 && k < count && what >= 0 && what < 4 ? entries[4 * k + what] : NONE;
        }
    }

    /** What printer and punch get of the machine, the assembler and the monitor. */
    private static final class Report {
        static final int JOB_WIDTH = 75;
        static final int JOB_TRACES = 50;

        private final Machine machine;
        private final Assembler assembler;
        private final Paper printer;
        private final Paper punch;

        Report(Machine machine, Assembler assembler, Units units) {
            this.machine = machine;
            this.assembler = assembler;
            this.printer = units.printer;
            this.punch = units.punch;
        }

        private int wordAt(int address) {
            int i = address + Machine.HIGH;
            return i >= 0 && i < machine.memory.length ? machine.memory[i] : 0;
        }

        /** The object cards: how many there are. */
        int punchCards() {
            int count = 0;
            int on = 0;
            for (int a = 0; a <= Machine.HIGH; a++) {
                if (assembler.isTouched(a)) {
                    if (on == 0) {
                        punch.digits(7, 4, a);
                    }
                    punchWord(11 + 10 * on, wordAt(a));
                    on++;
                }
                if (on == 7 || on > 0 && !assembler.isTouched(a + 1)) {
                    punch.digits(6, 1, on);
                    punch.finish(Paper.WIDTH, false);
                    count++;
                    on = 0;
                }
            }
            punch.digits(6, 1, 0);
            punch.digits(7, 4, Math.max(assembler.start, 0));
            punch.finish(Paper.WIDTH, false);
            return count + 1;
        }

        private void punchWord(int column, int w) {
            int magnitude = w & Codes.FULL;
            punch.digits(column, 10, magnitude);
            if ((w & Codes.SIGN) != 0) {
                int last = magnitude % 10;
                punch.mark(column + 9, last == 0 ? '~' : 'I' + last);
            }
        }

        int printWords(int width, boolean plain) {
            int count = 0;
            for (int a = 0; a <= Machine.HIGH; a++) {
                if (assembler.isTouched(a)) {
                    printer.digits(1, 4, a);
                    printInstruction(6, wordAt(a));
                    printer.operation(21, wordAt(a));
                    printer.finish(width, plain);
                    count++;
                }
            }
            return count;
        }

        private void printInstruction(int column, int w) {
            printer.signed(column, 4, w & Codes.SIGN | w >> 18 & Codes.TWO_BYTES);
            printer.digits(column + 6, 2, Codes.byteOf(w, 3));
            printer.digits(column + 9, 2, Codes.byteOf(w, 4));
            printer.digits(column + 12, 2, Codes.byteOf(w, 5));
        }

        int printLines() {
            Text text = assembler.text;
            text.reopen();
            int count = 0;
            for (int k = 0; k < assembler.lines && text.advance(); k++) {
                int put = assembler.putOf(text.line);
                printer.digits(1, 4, text.line);
                if (put <= Machine.HIGH) {
                    printer.signed(6, 4, Codes.wordOf(put));
                    printer.signed(12, 10, wordAt(put));
                }
                printer.copy(24, text.row);
                printer.finish(Paper.WIDTH, false);
                count++;
            }
            return count;
        }

        int printSymbols(int most, int width) {
            Symbols symbols = assembler.symbols;
            int count = 0;
            int i = symbols.nextInOrder(0);
            while (i >= 0 && count < symbols.count) {
                printer.name(1, symbols.names[i]);
                printer.signed(12, 10, symbols.values[i]);
                int read = symbols.nextRead(i, 0);
                for (int k = 0; k < most && read >= 0; k++) {
                    printer.digits(24 + 5 * k, 4, symbols.lineOfRead(read));
                    read = symbols.nextRead(i, read + 1);
                }
                printer.finish(width, false);
                count++;
                i = symbols.nextInOrder(symbols.names[i]);
            }
            return count;
        }

        /** The lines that have errors, from the first one on: how many. */
        int printWrongs(int width, boolean plain) {
            int count = 0;
            int first = 0;
            for (int k = 0; k <= TAPE + 1; k++) {
                int wrong = assembler.nextWrong();
                if (wrong == 0) {
                    break;
                }
                first = first == 0 ? wrong : first;
                printer.digits(1, 4, assembler.text.line);
                printer.digits(6, 1, wrong);
                if (wrong != 7) {
                    printer.copy(8, assembler.text.row);
                }
                printer.finish(width, plain);
                count++;
            }
            assembler.kind = first;
            return count;
        }

        /** The line of the instruction that was done. */
        void printTrace() {
            printer.signed(1, 4, Codes.wordOf(machine.latestAt));
            printInstruction(7, machine.latest);
            printer.operation(22, machine.latest);
            printer.signed(27, 10, machine.registers[0]);
            printer.signed(39, 10, machine.registers[7]);
            printer.digits(51, 1, machine.overflow ? 1 : 0);
            printer.mark(53, machine.comparison < 0 ? 'L' : machine.comparison == 0 ? 'E' : 'G');
            printer.digits(55, 9, machine.time);
            printer.finish(Paper.WIDTH, false);
        }

        /** The line of the latest job. */
        void printJob(Monitor monitor) {
            int k = monitor.count - 1;
            printer.copy(1, monitor.name);
            printer.text(16, endOf(monitor.entry(k, 0)));
            printer.digits(22, 4, monitor.entry(k, 1));
            printer.digits(27, 4, monitor.entry(k, 2));
            printer.digits(36, 5, monitor.entry(k, 3));
            printer.finish(Paper.WIDTH, false);
        }

        private static String endOf(int ended) {
            switch (ended) {
                case Monitor.HALT:
                    return "HALT";
                case Monitor.LIMIT:
                    return "LIMIT";
                case Monitor.FAULT:
                    return "FAULT";
                case Monitor.ERROR:
                    return "ERROR";
                default:
                    return "CARD";
            }
        }

        void printDump() {
            for (int k = 0; k <= 7; k++) {
                printer.mark(1, k == 0 ? 'A' : k == 7 ? 'X' : 'I');
                if (k >= 1 && k <= 6) {
                    printer.digits(2, 1, k);
                }
                printer.signed(10, 10, machine.registers[k]);
                printer.finish(Paper.WIDTH, false);
            }
            for (int a = 0; a <= Machine.HIGH; a += 4) {
                if ((wordAt(a) | wordAt(a + 1) | wordAt(a + 2) | wordAt(a + 3)) != 0) {
                    printer.digits(2, 4, a);
                    for (int i = 0; i < 4; i++) {
                        printer.signed(10 + 15 * i, 10, wordAt(a + i));
                    }
                    printer.finish(Paper.WIDTH, false);
                }
            }
        }

        /** A line of all jobs: their u in all. */
        int printSummary(Monitor monitor) {
            int sum = 0;
            printer.text(1, "JOBS");
            printer.digits(6, 4, monitor.count);
            int column = 11;
            for (int ended = Monitor.HALT; ended <= Monitor.CARD; ended++) {
                int count = 0;
                for (int k = 0; k < monitor.count; k++) {
                    if (monitor.entry(k, 0) == ended) {
                        count++;
                        sum += monitor.entry(k, 3);
                    }
                }
                String word = endOf(ended);
                printer.text(column, word);
                printer.digits(column + word.length() + 1, 4, count);
                column += word.length() + 6;
            }
            printer.digits(column, 10, sum);
            printer.finish(Paper.WIDTH, false);
            return sum;
        }
    }
}
