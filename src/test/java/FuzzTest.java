import java.util.NoSuchElementException;
import java.util.Random;

/**
 * Calls of every kind with texts, decks and numbers by chance: none may throw what the document does not name,
 * and the same calls give the same answers. The source of chance is the same in every run.
 */
public final class FuzzTest {
    private static final String[] OPS = {"LDA", "LD1", "LDX", "STA", "ST2", "STJ", "STZ", "ADD", "SUB", "MUL", "DIV", "NUM", "CHAR", "HLT", "INT", "SLA", "SRAX", "SLC",
        "MOVE", "JBUS", "IOC", "IN", "OUT", "JRED", "JMP", "JSJ", "JOV", "JGE", "JAN", "J3Z", "JXP", "INCA", "DEC1", "ENTX", "ENN3", "CMPA", "CMP4", "EQU", "ORIG", "CON",
        "ALF", "END", "FADD", "FOO", "", "NOP"};
    private static final String[] ATOMS = {"A", "B", "C", "LOOP", "X1", "1B", "2F", "1H", "*", "0", "1", "7", "18", "100", "3999", "4000", "1073741823", "12345678901"};
    private static final String[] LOCS = {"", "", "", "", "A", "B", "C", "LOOP", "X1", "1H", "2H", "2B", "9Z", " A", "A B"};

    private final Random chance;
    private final StringBuilder answers = new StringBuilder();

    private FuzzTest(long seed) {
        chance = new Random(seed);
    }

    public static void main(String[] args) {
        for (int seed = 0; seed < 400; seed++) {
            String first = new FuzzTest(seed).go();
            if (seed % 20 == 0) {
                Kit.due("the same answers, seed " + seed, new FuzzTest(seed).go(), first);
            }
        }
        Kit.due("all runs ended", 1, 1);
        Kit.close();
    }

    private String go() {
        SixBitBoard b = new SixBitBoard();
        for (int call = 0; call < 120; call++) {
            int what = chance.nextInt(34);
            try {
                answers.append(what).append(':').append(ask(b, what)).append('\n');
            } catch (NoSuchElementException e) {
                boolean named = what >= 21 && what <= 25;
                answers.append("none\n");
                Kit.due("call " + what + " may throw", named, true);
            }
        }
        return answers.toString();
    }

    private long ask(SixBitBoard b, int what) {
        switch (what) {
            case 0, 1: return Kit.feed(b, source()).assemble();
            case 2: return Kit.feed(b, source()).errors();
            case 3, 4, 5: return Kit.feed(b, deck()).jobs();
            case 6: return Kit.feed(b, cards()).cards();
            case 7: return Kit.feed(b, cards()).mount(number(20), number(70));
            case 8, 9: return b.run(chance.nextInt(3000));
            case 10: return b.trace(chance.nextInt(310) - 5);
            case 11: return b.go() ? 1 : 0;
            case 12: return b.deck();
            case 13: return b.list();
            case 14: return b.listing();
            case 15: return b.names();
            case 16: return b.summary();
            case 17: return b.account(number(5), number(5));
            case 18: return b.state() + 10 * b.error();
            case 19: return b.time();
            case 20: return b.letter(number(20), number(300), number(120));
            case 21: return b.register(number(12));
            case 22: return b.word(number(4100));
            case 23: return b.block(number(16), number(64), number(100));
            case 24: return Kit.feed(b, atom()).symbol();
            case 25: return b.symbol();
            case 26: return b.unit(number(20));
            case 27:
                if (chance.nextInt(4) == 0) {
                    b.tear();
                }
                return 0;
            case 28: return b.feed(chance.nextInt(), chance.nextInt(), chance.nextInt(), chance.nextInt(), chance.nextInt()) ? 1 : 0;
            case 29: return b.end(number(30)) ? 1 : 0;
            case 30: return b.assemble();
            case 31: return b.jobs();
            case 32: return Kit.feed(b, words()).assemble();
            default: return b.run(number(200000));
        }
    }

    private int number(int bound) {
        switch (chance.nextInt(12)) {
            case 0: return -1;
            case 1: return bound;
            case 2: return chance.nextInt();
            case 3: return chance.nextBoolean() ? Integer.MIN_VALUE : Integer.MAX_VALUE;
            default: return chance.nextInt(bound + 1) - (bound > 1000 && chance.nextBoolean() ? bound : 0);
        }
    }

    private String pick(String[] from) {
        return from[chance.nextInt(from.length)];
    }

    private String atom() {
        return pick(ATOMS);
    }

    private String expression() {
        StringBuilder text = new StringBuilder(chance.nextInt(6) == 0 ? "-" : "");
        text.append(atom());
        for (int k = chance.nextInt(8) - 5; k > 0; k--) {
            text.append(pick(new String[] {"+", "-", "*", "/", "//", ":"})).append(atom());
        }
        return text.toString();
    }

    private String address() {
        switch (chance.nextInt(8)) {
            case 0: return "";
            case 1: return "=" + expression() + "=";
            case 2: return expression() + "," + chance.nextInt(8);
            case 3: return expression() + "(" + chance.nextInt(21) + ")";
            case 4: return chance.nextInt(200) + "(" + (16 + chance.nextInt(5)) + ")";
            case 5: return expression() + "(" + chance.nextInt(6) + ":" + chance.nextInt(7) + ")," + expression();
            default: return expression();
        }
    }

    private String source() {
        StringBuilder text = new StringBuilder();
        if (chance.nextInt(3) == 0) {
            text.append(Kit.source("ORIG|-12", "JMP|-900", "ORIG|-10", "CON|" + chance.nextInt(4000), "ORIG|-900", "INT|", "ORIG|0"));
        }
        int lines = chance.nextInt(25);
        for (int k = 0; k < lines; k++) {
            boolean tame = chance.nextInt(3) > 0;
            String op = tame ? OPS[chance.nextInt(37)] : pick(OPS);
            text.append(Kit.src(tame ? "" : pick(LOCS), op, tame ? "" + chance.nextInt(200) : address()));
        }
        if (chance.nextInt(8) > 0) {
            text.append(Kit.source("END|" + (chance.nextInt(4) == 0 ? "-900" : chance.nextInt(4) == 0 ? expression() : "0")));
        }
        return text.toString();
    }

    /** Words by chance, so that any instruction may be met. */
    private String words() {
        StringBuilder text = new StringBuilder(Kit.source(chance.nextBoolean() ? "ORIG|0" : "ORIG|-20"));
        for (int k = 0; k < 60; k++) {
            text.append(Kit.source("CON|" + (chance.nextBoolean() ? "-" : "") + chance.nextInt(4096) + "(0:2)," + chance.nextInt(8) + "(3:3),"
                + chance.nextInt(24) + "(4:4)," + chance.nextInt(64) + "(5:5)"));
        }
        return text.append(Kit.source("END|" + (chance.nextBoolean() ? 0 : -20))).toString();
    }

    private String cards() {
        StringBuilder text = new StringBuilder();
        for (int k = chance.nextInt(30); k > 0; k--) {
            for (int i = chance.nextInt(95); i > 0; i--) {
                text.append((char) (chance.nextInt(20) == 0 ? chance.nextInt(256) : 32 + chance.nextInt(90)));
            }
            text.append(chance.nextInt(9) == 0 ? "\n*\n" : "\n");
        }
        return text.toString();
    }

    private String deck() {
        StringBuilder text = new StringBuilder();
        for (int k = chance.nextInt(5); k > 0; k--) {
            text.append("*JOB J").append(k).append(' ').append(chance.nextInt(3000)).append(pick(new String[] {"", "", " DUMP", " LIST", " LIST NAMES DECK TRACE", " X"})).append('\n');
            switch (chance.nextInt(5)) {
                case 0 -> text.append("*SAME\n");
                case 1 -> text.append("*LOAD\n     3000000000001330000000008000000000~\n").append(chance.nextInt(4) == 0 ? cards() : "     00000\n");
                default -> text.append(source());
            }
            text.append(chance.nextInt(9) == 0 ? "" : "*DATA\n").append(cards()).append(chance.nextInt(9) == 0 ? "" : "*END\n");
            if (text.length() > 6000) {
                break;
            }
        }
        return text.length() > 8180 ? text.substring(0, 8180) : text.toString();
    }
}
