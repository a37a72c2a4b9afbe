/** The sentences of the terms OBJECT CARDS and THE MONITOR that name an edge, one test each. */
public final class EdgeMonitorTest {
    private static final String HALT = Kit.source("HLT|", "END|0");
    private static final String HLT = "0000000133";

    public static void main(String[] args) {
        anyColumns();
        cardDigits();
        cardAddresses();
        cardWords();
        cardLastDigit();
        cardMagnitude();
        transferCards();
        jobNames();
        jobLimits();
        jobOptions();
        jobColumns();
        endInSource();
        firstLine();
        behindEither();
        separators();
        goneOver();
        jobWithin();
        asAtFirst();
        belowZero();
        same();
        sameWithout();
        dataCards();
        jobLine();
        whichCard();
        limit();
        limitOrder();
        listAndNames();
        errorsOfJob();
        trace();
        dumpRegisters();
        dumpWords();
        blocksStay();
        askedBehind();
        Kit.close();
    }

    private static String job(String card, String body, String... data) {
        return card + "\n" + body + "*DATA\n" + Kit.lines(data) + "*END\n";
    }

    private static SixBitBoard run(String deck, int jobs) {
        SixBitBoard b = new SixBitBoard();
        Kit.due("[" + deck + "]", Kit.feed(b, deck).jobs(), jobs);
        return b;
    }

    private static String line(String name, String end, int kind, int place, int u) {
        return String.format("%-15s%-6s%04d %04d     %05d", name, end, kind, place, u);
    }

    private static SixBitBoard load(String... cards) {
        return run(job("*JOB A 500", "*LOAD\n" + Kit.lines(cards)), 1);
    }

    /** Cards (HLT at 0 ahead of them) that load and start at 0. */
    private static SixBitBoard right(String card) {
        SixBitBoard b = load("     10000" + HLT, card, "     00000");
        Kit.due("[" + card + "]", Kit.line(b, 18, 0), line("A", "HALT", 0, 1, 10));
        return b;
    }

    /** A card that is none, behind a right one. */
    private static void none(String card) {
        SixBitBoard b = load("     10000" + HLT, card, "     00000");
        Kit.due("[" + card + "]", Kit.line(b, 18, 0), line("A", "CARD", 0, 2, 0));
        Kit.due("nothing is loaded", b.word(0), 0);
    }

    private static void anyColumns() {
        Kit.told("columns 1 to 5 anything; .. What is behind these columns is anything");
        for (String five : new String[] {"     ", "ABCDE", "*X  1", "12345", "*****", "?\u0001\t()"}) {
            right(five + "10100" + HLT);
            right(five + "10100" + HLT + "X 1*(");
        }
        SixBitBoard b = load("XXXXX10000" + HLT + "YYYYYYYYYY", "ZZZZZ00000" + "ANYTHING");
        Kit.due("a transfer card, too", b.account(0, 0), 0);
        Kit.due("no word of it", b.word(1), 0);
    }

    private static void cardDigits() {
        Kit.told("6 a digit N; .. N from 1 to 7");
        String words = HLT.repeat(7);
        for (int n = 1; n <= 7; n++) {
            SixBitBoard b = right("     " + n + "0100" + words);
            Kit.due(n + " words: the last", b.word(99 + n), 133);
            Kit.due(n + " words: no more", b.word(100 + n), 0);
        }
        none("     80100" + words);
        none("     90100" + words);
        none("      0100" + words);
        none("     A0100" + words);
        none("     -0100" + words);
        none("     +0100" + words);
    }

    private static void cardAddresses() {
        Kit.told("7 to 10 four digits, an ADDRESS below 4000; .. they come to this address and those behind it, all below 4000");
        Kit.due("3999", right("     13999" + HLT).word(3999), 133);
        none("     14000" + HLT);
        none("     19999" + HLT);
        Kit.due("7 from 3993", right("     73993" + HLT.repeat(7)).word(3999), 133);
        none("     73994" + HLT.repeat(7));
        none("     23999" + HLT.repeat(2));
        for (String bad : new String[] {" 100", "1 00", "10 0", "100 ", "-100", "010A", "100~"}) {
            none("     1" + bad + HLT);
        }
    }

    private static void cardWords() {
        Kit.told("then N words, ten columns each: ten digits");
        SixBitBoard b = right("     30100" + "0000000000" + "0000000010" + "1000000009");
        Kit.due("+0", b.word(100), 0);
        Kit.due("10", b.word(101), 10);
        Kit.due("1000000009", b.word(102), 1000000009);
        for (int k = 0; k < 10; k++) {
            StringBuilder word = new StringBuilder(HLT);
            word.setCharAt(k, ' ');
            none("     10100" + word);
            word.setCharAt(k, 'A');
            none("     10100" + word);
            if (k < 9) {
                word.setCharAt(k, 'J');
                none("     10100" + word);
                word.setCharAt(k, '~');
                none("     10100" + word);
            }
        }
        none("     20100" + HLT);
        none("     20100" + HLT + "000000013");
        none("     10100");
    }

    private static void cardLastDigit() {
        Kit.told("the last one, if the word has -, being ~ (0) or J to R (1 to 9)");
        for (int d = 0; d <= 9; d++) {
            char last = d == 0 ? '~' : (char) ('J' + d - 1);
            Kit.due("- " + d, right("     10100" + "000000012" + last).word(100), -120 - d);
            Kit.due("+ " + d, right("     10100" + "000000012" + d).word(100), 120 + d);
        }
        Kit.due("-0", right("     10100" + "000000000~").word(100), Kit.LEAST);
        Kit.due("small letters", right("     10100" + "000000000r").word(100), -9);
        for (char c : "IS[#Z-+.".toCharArray()) {
            none("     10100" + "000000012" + c);
        }
    }

    private static void cardMagnitude() {
        Kit.told("below 2 to the power 30");
        Kit.due("the greatest", right("     10100" + "1073741823").word(100), 1073741823);
        Kit.due("the least", right("     10100" + "107374182L").word(100), -1073741823);
        none("     10100" + "1073741824");
        none("     10100" + "107374182M");
        none("     10100" + "9999999999");
        none("     10100" + "999999999R");
        none("     10100" + "4294967296");
    }

    private static void transferCards() {
        Kit.told("N 0: a TRANSFER CARD: it starts there");
        SixBitBoard b = load("     13999" + HLT, "     03999");
        Kit.dueLines("at 3999", b, 18, line("A", "HALT", 0, 4000, 10));
        b = load("     10000" + HLT, "     04000");
        Kit.dueLines("4000 is none", b, 18, line("A", "CARD", 0, 2, 0));
        b = load("     00000");
        Kit.dueLines("alone", b, 18, line("A", "LIMIT", 0, 500, 500));
    }

    private static void jobNames() {
        Kit.told("*JOB in columns 1 to 4, a space, a name (1 to 10 letters A .. Z and digits), a space");
        for (String name : new String[] {"A", "Z", "0", "9", "1234567890", "ABCDEFGHIJ", "A1B2", "2B"}) {
            SixBitBoard b = run(job("*JOB " + name + " 50", HALT), 1);
            Kit.dueLines("name", b, 18, line(name, "HALT", 0, 1, 10));
        }
        Kit.due("small letters", Kit.line(run(job("*job abc 50", HALT), 1), 18, 0), line("ABC", "HALT", 0, 1, 10));
        for (String bad : new String[] {"*JOB  50", "*JOB ABCDEFGHIJK 50", "*JOB A-B 50", "*JOB A. 50", "*JOB ~ 50", "*JOB  A 50", "*JOB A  50", "*JOBA 50", "*JOB", "*JOB A", "*JOB A ",
            " *JOB A 50", "JOB A 50", "XJOB A 50", "*JOX A 50", "*JIB A 50", "*JOB  1", "*JOB * 1"}) {
            run(job(bad, HALT), 0);
        }
    }

    private static void jobLimits() {
        Kit.told("a limit in u (1 to 5 digits, 0 too)");
        for (String limit : new String[] {"0", "00000", "9", "10", "00010", "99999"}) {
            SixBitBoard b = run(job("*JOB A " + limit, HALT), 1);
            Kit.due("limit " + limit, b.account(0, 0), Integer.parseInt(limit) < 10 ? 1 : 0);
        }
        for (String bad : new String[] {"100000", "000000", "A", "-1", "+1", "1A", "1.", "", "1-"}) {
            run(job("*JOB A " + bad, HALT), 0);
        }
    }

    private static void jobOptions() {
        Kit.told("then perhaps, in this order, each behind a space, some of DUMP, LIST, NAMES, DECK, TRACE, no more");
        String[] words = {"DUMP", "LIST", "NAMES", "DECK", "TRACE"};
        for (int some = 0; some < 32; some++) {
            StringBuilder card = new StringBuilder("*JOB A 50");
            for (int k = 0; k < 5; k++) {
                card.append((some >> k & 1) != 0 ? " " + words[k] : "");
            }
            SixBitBoard b = run(job(card.toString(), Kit.source("S|HLT|", "END|0")), 1);
            int lines = 1 + ((some & 1) != 0 ? 8 + 1 : 0) + ((some & 2) != 0 ? 1 : 0) + ((some & 4) != 0 ? 1 : 0) + ((some & 16) != 0 ? 1 : 0);
            Kit.due(card + ", lines", b.unit(18), lines);
            Kit.due(card + ", cards", b.unit(17), (some & 8) != 0 ? 2 : 0);
        }
        for (String bad : new String[] {"LIST DUMP", "DUMP DUMP", "NAMES LIST", "TRACE TRACE", "X", "DUMP X", "DUMPS", "DUMPLIST", " DUMP", "DUMP  LIST", "DUM", "XUMP", "XIST", "XAMES", "XECK", "XRACE",
            "DUMP LIST NAMES DECK TRACE X", "*", "0"}) {
            run(job("*JOB A 50 " + bad, HALT), 0);
        }
        run(job("*JOB A 50DUMP", HALT), 0);
    }

    private static void jobColumns() {
        Kit.told("A DECK is lines (cards): letters as on cards");
        run(job("*JOB A 50" + " ".repeat(71) + "BEHIND COLUMN 80", HALT), 1);
        run(job("*JOB A 50" + " ".repeat(70) + "X", HALT), 0);
        run(job("*JOB A 50\r", HALT), 1);
        run(job("*JOB\tA\u000150?", HALT), 1);
        run("*JOB A 50\r\n" + HALT + "*DATA\r\n*END\r\n", 1);
    }

    private static void endInSource() {
        Kit.told("then source (*END in it is a remark)");
        SixBitBoard b = run("*JOB A 50\n*END\n" + Kit.source("NOP|") + "*END\n" + HALT + "*END\n*DATA\n*END\n", 1);
        Kit.dueLines("remarks", b, 18, line("A", "HALT", 0, 2, 11));
        b = run("*JOB A 50\n*DATA\n*END\n", 1);
        Kit.dueLines("an empty source", b, 18, line("A", "ERROR", 7, 1, 0));
    }

    private static void firstLine() {
        Kit.told("both stand first, elsewhere they are a remark, or no object card");
        SixBitBoard b = run(job("*JOB A 50", "*\n*LOAD\n*SAME\n" + HALT), 1);
        Kit.dueLines("remarks in source", b, 18, line("A", "HALT", 0, 1, 10));
        for (String card : new String[] {"*LOAD", "*SAME", "*END", "*JOB", "*"}) {
            b = load("     10000" + HLT, card, "     00000");
            Kit.dueLines(card + " is no object card", b, 18, line("A", "CARD", 0, 2, 0));
        }
        b = run(job("*JOB A 50", "*LOADS\n*SAMES\n" + HALT), 1);
        Kit.dueLines("*LOADS and *SAMES are remarks", b, 18, line("A", "HALT", 0, 1, 10));
        b = run(job("*JOB A 50", "XLOAD\n" + HALT), 1);
        Kit.dueLines("XLOAD is source", b, 18, line("A", "ERROR", 2, 1, 0));
        b = run(job("*JOB A 50", "XSAME\n" + HALT), 1);
        Kit.dueLines("XSAME is source", b, 18, line("A", "ERROR", 2, 1, 0));
    }

    private static void behindEither() {
        Kit.told("what is behind either is gone over");
        SixBitBoard b = load("     10000" + HLT, "     00000", "NO CARD", "     10000" + "0000000000", "*LOAD", "*END");
        Kit.dueLines("behind the transfer card", b, 18, line("A", "HALT", 0, 1, 10));
        b = run(job("*JOB A 50", HALT) + job("*JOB B 50", "*SAME\nNO CARD\n*LOAD\n*END\n" + Kit.source("FOO|")), 2);
        Kit.dueLines("behind *SAME", b, 18, line("A", "HALT", 0, 1, 10), line("B", "HALT", 0, 1, 10));
    }

    private static void separators() {
        Kit.told("these four with nothing or a space behind them, then anything");
        for (String rest : new String[] {"", " ", " X", " *DATA", "     1", "\u0001X"}) {
            SixBitBoard b = run("*JOB A 50\n*LOAD" + rest + "\n     10000" + HLT + "\n     00000\n*DATA" + rest + "\n*END" + rest + "\n*JOB B 50\n*SAME" + rest + "\n*DATA\n*END\n", 2);
            Kit.dueLines("behind a space", b, 18, line("A", "HALT", 0, 1, 10), line("B", "HALT", 0, 1, 10));
        }
        for (String bad : new String[] {"*DATAX", " *DATA", "XDATA", "*DATE", "*DATA.", "*DAT"}) {
            run("*JOB A 50\n" + HALT + bad + "\n*END\n", 0);
        }
        for (String bad : new String[] {"*ENDX", " *END", "XEND", "*AND", "*END.", "*EN"}) {
            run("*JOB A 50\n" + HALT + "*DATA\n" + bad + "\n", 0);
        }
    }

    private static void goneOver() {
        Kit.told("What doesn't stand so is gone over up to the next right *JOB line");
        SixBitBoard b = run("ANYTHING\n*DATA\n*END\n" + job("*JOB A 50", HALT) + "*DATA\n*END\n*SAME\n\n" + job("*JOB", HALT) + job("*JOB B 50", HALT) + "REST\n*JOB C 50\n", 2);
        Kit.dueLines("two jobs", b, 18, line("A", "HALT", 0, 1, 10), line("B", "HALT", 0, 1, 10));
        run("*JOB A 50\n" + HALT, 0);
        run("*JOB A 50\n" + HALT + "*DATA\nX\n", 0);
        run("", 0);
        run("\n\n", 0);
    }

    private static void jobWithin() {
        Kit.told("one within source, object or data cards ends that job: it is none");
        String good = job("*JOB Z 50", HALT);
        for (String early : new String[] {"*JOB A 50\n", "*JOB A 50\n" + HALT, "*JOB A 50\n" + HALT + "*DATA\nX\n", "*JOB A 50\n*LOAD\n     10000" + HLT + "\n", "*JOB A 50\n*SAME\n",
            "*JOB A 50 DUMP\n*LOAD\n     00000\n*DATA\n"}) {
            SixBitBoard b = run(early + good, 1);
            Kit.dueLines("only Z", b, 18, line("Z", "HALT", 0, 1, 10));
        }
        SixBitBoard b = run(job("*JOB A 50", "*JOB X\n" + HALT, "X", "*JOB Y", "Z"), 1);
        Kit.dueLines("a *JOB line that is not right ends nothing", b, 18, line("A", "HALT", 0, 1, 10));
        Kit.due("it is a data card with *", b.unit(16), 1);
    }

    private static void asAtFirst() {
        Kit.told("Each job: memory, registers as at first, tapes at 0, time 0, units free");
        String first = Kit.source("LDA|BIG", "INCA|9", "ENTX|9", "ENT1|9", "ENT6|9", "CMPX|3000", "STA|500", "OUT|0(3)", "OUT|0(18)", "JMP|*+1", "HLT|", "BIG|CON|1073741823", "END|0");
        String second = Kit.source("JOV|50", "JL|50", "JG|50", "LDA|500", "JANZ|50", "JXNZ|50", "J1NZ|50", "J6NZ|50", "OUT|0(3)", "STJ|600", "OUT|700(18)", "HLT|", "END|0");
        SixBitBoard b = run(job("*JOB A 500", first) + job("*JOB B 500", second), 2);
        Kit.due("B halts", b.account(1, 0), 0);
        Kit.due("behind all", b.account(1, 2), 12);
        Kit.due("without waiting", b.account(1, 3), 3 + 2 + 4 + 1 + 2 + 1 + 10);
        Kit.due("J was +0", b.word(600), 0);
        Kit.due("the tape was at 0", b.unit(3), 1);
        Kit.due("memory", b.word(500), 0);
    }

    private static void belowZero() {
        Kit.told("ORIG and END below 0 are error 5 there");
        for (String bad : new String[] {"ORIG|-1", "ORIG|-3999", "END|-1", "END|-3999", "END|0-1"}) {
            SixBitBoard b = run(job("*JOB A 50", Kit.source(bad, "END|0")), 1);
            Kit.dueLines(bad, b, 18, line("A", "ERROR", 5, 1, 0));
            Kit.due("error", b.error(), 5);
        }
        SixBitBoard b = run(job("*JOB A 50", Kit.source("ORIG|-0", "HLT|", "END|-0")), 1);
        Kit.dueLines("-0 is not below 0", b, 18, line("A", "HALT", 0, 1, 10));
        b = run(job("*JOB A 50", Kit.source("A|EQU|-1", "LDA|-1", "END|0")), 1);
        Kit.dueLines("other values may be", b, 18, line("A", "FAULT", 2, 0, 0));
    }

    private static void same() {
        Kit.told("with *SAME those of the latest job of this deck, ahead of it, that was no ERROR or CARD; of source those as of deck()");
        String count = Kit.source("ORIG|7", "GO|LDA|W", "INCA|1", "STA|W", "HLT|", "W|CON|5", "END|GO");
        String same = "*SAME\n";
        SixBitBoard b = run(job("*JOB A 50", count) + job("*JOB B 50", same) + job("*JOB C 2", same) + job("*JOB D 50", Kit.source("FOO|")) + job("*JOB E 50", "*LOAD\nX\n")
            + job("*JOB F 50", same), 6);
        Kit.dueLines("as it was ahead of the run", b, 18, line("A", "HALT", 0, 11, 15), line("B", "HALT", 0, 11, 15), line("C", "LIMIT", 0, 8, 2), line("D", "ERROR", 2, 1, 0),
            line("E", "CARD", 0, 1, 0), line("F", "HALT", 0, 11, 15));
        Kit.due("W", b.word(11), 6);
        b = run(job("*JOB A 50", Kit.source("LDA|4000", "END|0")) + job("*JOB B 50", same), 2);
        Kit.dueLines("of a FAULT, too", b, 18, line("A", "FAULT", 2, 0, 0), line("B", "FAULT", 2, 0, 0));
        for (String end : new String[] {"JMP|*", "LDA|4000"}) {
            b = run(job("*JOB A 50", Kit.source("LDA|W", "INCA|1", "STA|W", end, "W|CON|5", "END|0")) + job("*JOB B 50", same), 2);
            Kit.due(end + ": as it was ahead of that run", b.word(4), 6);
        }
        b = run(job("*JOB A 50", HALT) + job("*JOB B 50", "*LOAD\n     10005" + HLT + "\n     00005\n") + job("*JOB C 50", same) + job("*JOB D 50", same), 4);
        Kit.dueLines("the latest, of object cards", b, 18, line("A", "HALT", 0, 1, 10), line("B", "HALT", 0, 6, 10), line("C", "HALT", 0, 6, 10), line("D", "HALT", 0, 6, 10));
        Kit.due("nothing of A", b.word(0), 0);
    }

    private static void sameWithout() {
        Kit.told("1 for *SAME without such a job");
        SixBitBoard b = run(job("*JOB A 50", "*SAME\n") + job("*JOB B 50", Kit.source("FOO|")) + job("*JOB C 50", "*SAME\n"), 3);
        Kit.dueLines("none yet", b, 18, line("A", "CARD", 0, 1, 0), line("B", "ERROR", 2, 1, 0), line("C", "CARD", 0, 1, 0));
        Kit.feed(b, job("*JOB A 50", HALT)).jobs();
        Kit.due("another deck's", Kit.feed(b, job("*JOB B 50", "*SAME\n")).jobs(), 1);
        Kit.due("is none of this one's", b.account(0, 0), 4);
    }

    private static void dataCards() {
        Kit.told("the reader has the data cards alone (those ahead of the first one with * in column 1: it and those behind are not there, also for what is asked behind the job)");
        String read = Kit.source("IN|100(16)", "IN|116(16)", "IN|132(16)", "HLT|", "END|0");
        SixBitBoard b = new SixBitBoard();
        Kit.feed(b, "OLD\n").cards();
        Kit.feed(b, job("*JOB A 5000", read, "ONE", " *", "*", "FOUR")).jobs();
        Kit.due("fault 6 at the third", b.account(0, 1), 6);
        Kit.due("counter", b.account(0, 2), 2);
        Kit.due("none is left", b.unit(16), 0);
        Kit.due("the first", b.word(100), Kit.letters("ONE  "));
        Kit.due("* in column 2 is nothing", b.word(116), Kit.letters(" *   "));
        Kit.due("GO finds none", b.go(), false);
        b = run(job("*JOB A 5000", HALT, "*", "TWO"), 1);
        Kit.due("none at all", b.unit(16), 0);
        b = run(job("*JOB A 5000", Kit.source("IN|100(16)", "HLT|", "END|0"), "ABCDEFG", "H") + job("*JOB B 5000", Kit.source("IN|100(16)", "HLT|", "END|0"), "XYZ", "W"), 2);
        Kit.due("each job its own", b.word(100), Kit.letters("XYZ  "));
        Kit.due("one is left", b.unit(16), 1);
        Kit.due("GO", b.go(), true);
        Kit.due("it is the second", b.word(0), Kit.letters("W    "));
        Kit.told("data cards (a second *DATA is one)");
        b = run(job("*JOB A 5000", HALT, "X", "*DATA", "Y"), 1);
        Kit.due("with *: it is not there", b.unit(16), 1);
    }

    private static void jobLine() {
        Kit.told("the printer gets a line: columns 1 to 10 the name; 16 to 20 HALT ..; 22 to 25; 27 to 30; 36 to 40 five digits: its u (0 for ERROR, CARD)");
        SixBitBoard b = run(job("*JOB ABCDEFGHIJ 99999", Kit.source("ORIG|3999", "JMP|*", "END|3999")) + job("*JOB B 50", Kit.source("NOP|", "IN|0(20)", "END|0"))
            + job("*JOB C 50", Kit.source("NOP|", "CON|1//1", "END|0")) + job("*JOB D 50", "*LOAD\n" + "     10000" + HLT + "\n"), 4);
        Kit.dueLines("lines", b, 18, "ABCDEFGHIJ     LIMIT 0000 3999     99999", "B              FAULT 0005 0001     00001", "C              ERROR 0005 0002     00000",
            "D              CARD  0000 0002     00000");
    }

    private static void whichCard() {
        Kit.told("which card it is (from 1, of those behind *LOAD; one more than there are without a transfer card)");
        Kit.due("no cards", load().account(0, 2), 1);
        Kit.due("the first", load("X").account(0, 2), 1);
        Kit.due("the second", load("     10000" + HLT, "X", "Y").account(0, 2), 2);
        Kit.due("no transfer card", load("     10000" + HLT, "     10001" + HLT).account(0, 2), 3);
        Kit.due("a blank card", load("").account(0, 2), 1);
    }

    private static void limit() {
        Kit.told("LIMIT: an instruction that would end above the limit isn't done");
        String[][] runs = {{"NOP|", "1"}, {"LDA|5", "2"}, {"MUL|5", "10"}, {"MOVE|5(63)", "127"}, {"HLT|", "10"}};
        for (String[] r : runs) {
            int u = Integer.parseInt(r[1]);
            String source = Kit.source("NOP|", r[0], "CON|7(3:3)", "END|0");
            SixBitBoard b = run(job("*JOB A " + u, source), 1);
            Kit.dueLines(r[0] + " just not", b, 18, line("A", "LIMIT", 0, 1, 1));
            Kit.due("state", b.state(), 9);
            Kit.due("run", b.run(5), 0);
            b = run(job("*JOB A " + (u + 1), source), 1);
            Kit.due(r[0] + " just done", b.account(0, 3), u + 1);
        }
        SixBitBoard b = run(job("*JOB A 751", Kit.source("OUT|50(18)", "OUT|50(18)", "HLT|", "END|0")), 1);
        Kit.dueLines("with waiting, just done", b, 18, "", "", line("A", "LIMIT", 0, 2, 751));
        b = run(job("*JOB A 750", Kit.source("OUT|50(18)", "OUT|50(18)", "HLT|", "END|0")), 1);
        Kit.dueLines("with waiting, just not", b, 18, "", line("A", "LIMIT", 0, 1, 1));
    }

    private static void limitOrder() {
        Kit.told("looked at behind fault 1, and 2 of the counter, ahead of the others");
        Kit.due("1", run(job("*JOB A 0", Kit.source("CON|7(3:3)", "END|0")), 1).account(0, 1), 1);
        Kit.due("INT is 1", run(job("*JOB A 0", Kit.source("INT|", "END|0")), 1).account(0, 1), 1);
        Kit.due("2 of the counter", run(job("*JOB A 1", Kit.source("ORIG|3999", "NOP|", "END|3999")), 1).account(0, 1), 2);
        for (String line : new String[] {"LDA|4000", "LDA|0(6)", "LD1|0", "IN|0(17)", "IN|0(16)", "JMP|4000"}) {
            Kit.due(line, run(job("*JOB A 0", Kit.source(line, "END|0")), 1).account(0, 0), 1);
        }
    }

    private static void listAndNames() {
        Kit.told("with LIST the lines as of list(), with NAMES those as of names() (at most 10 numbers of lines each), and with DECK the punch the cards as of deck(); of each line the first 75 letters, ? as a space");
        StringBuilder source = new StringBuilder(Kit.source("ABCDEFGHIJ|EQU|1"));
        for (int k = 0; k < 12; k++) {
            source.append(Kit.source(k < 9 ? "CON|ABCDEFGHIJ" : "LDA|ABCDEFGHIJ,6(0:2)"));
        }
        SixBitBoard b = run(job("*JOB A 0 LIST NAMES DECK", source + Kit.source("CON|63(4:4),5(5:5)", "END|0")), 1);
        Kit.due("13 words, a name, its own line", b.unit(18), 15);
        Kit.due("a word", Kit.line(b, 18, 9), "0009 +0001 06 02 08 LDA");
        Kit.due("? as a space", Kit.line(b, 18, 12), "0012 +0000 00 63 05");
        Kit.due("ten numbers", Kit.line(b, 18, 13), "ABCDEFGHIJ +0000000001 0002 0003 0004 0005 0006 0007 0008 0009 0010 0011");
        Kit.due("cards", b.unit(17), 3);
        Kit.due("whole ones", Kit.line(b, 17, 0), "     70000" + "0000000001".repeat(7));
        b = run(job("*JOB A 50", "*LOAD\n     10000" + HLT + "\n     00000\n") + job("*JOB B 50 LIST NAMES DECK", "*SAME\n") + job("*JOB C 50 LIST NAMES DECK", "*LOAD\n     10000" + HLT + "\n     00000\n"), 3);
        Kit.due("of source alone", b.unit(18), 3);
        Kit.due("no cards", b.unit(17), 0);
    }

    private static void errorsOfJob() {
        Kit.told("with LIST one of ERROR the lines as of errors(), ahead of its own; of each line the first 75 letters");
        String wide = "           CON  1)" + "0123456789".repeat(7);
        SixBitBoard b = run(job("*JOB A 50 DUMP LIST NAMES DECK TRACE", wide + "\n" + Kit.source("FOO|", "ORIG|-5", "END|-1")), 1);
        Kit.dueLines("lines", b, 18, ("0001 1 " + wide).substring(0, 75), "0002 2            FOO", "0003 5            ORIG -5", "0004 5            END  -1", "0005 7", line("A", "ERROR", 1, 1, 0));
        Kit.due("no cards", b.unit(17), 0);
        Kit.due("not without LIST", run(job("*JOB A 50 DUMP NAMES DECK TRACE", Kit.source("FOO|")), 1).unit(18), 1);
    }

    private static void trace() {
        Kit.told("With TRACE the printer gets, for each of the first 50 instructions that a job does (HLT too), its line as in trace() (all of it)");
        SixBitBoard b = run(job("*JOB A 5000 TRACE", Kit.source("INCA|1", "JMP|0", "END|0")), 1);
        Kit.due("50 lines and its own", b.unit(18), 51);
        Kit.due("the 50th", Kit.line(b, 18, 49), "+0001 +0000 00 00 39 JMP  +0000000025 +0000000000 0 E 000000050");
        b = run(job("*JOB A 5000 TRACE", Kit.source("NOP|").repeat(49) + HALT), 1);
        Kit.due("49 and HLT", Kit.line(b, 18, 49), "+0049 +0000 00 02 05 HLT  +0000000000 +0000000000 0 E 000000059");
        b = run(job("*JOB A 5000 TRACE", Kit.source("NOP|").repeat(50) + HALT), 1);
        Kit.due("HLT is the 51st", b.unit(18), 51);
        b = run(job("*JOB A 50 TRACE", HALT) + job("*JOB B 50 TRACE", "*SAME\n"), 2);
        Kit.dueLines("each job, its own u", b, 18, "+0000 +0000 00 02 05 HLT  +0000000000 +0000000000 0 E 000000010", line("A", "HALT", 0, 1, 10),
            "+0000 +0000 00 02 05 HLT  +0000000000 +0000000000 0 E 000000010", line("B", "HALT", 0, 1, 10));
        b = run(job("*JOB A 50 TRACE", Kit.source("LDA|4000", "END|0")), 1);
        Kit.due("none of a fault", b.unit(18), 1);
        b = run(job("*JOB A 0 TRACE", HALT), 1);
        Kit.due("none above the limit", b.unit(18), 1);
    }

    private static void dumpRegisters() {
        Kit.told("With DUMP, behind HALT, LIMIT, FAULT, lines follow: A, I1 to I6, X");
        String source = Kit.source("LDA|W", "ENT1|4095", "ENN2|4095", "ENN3|0", "ENT6|6", "LDXN|W", "HLT|", "W|CON|-1073741823", "END|0");
        SixBitBoard b = run(job("*JOB A 50 DUMP", source), 1);
        String[] want = {"A        -1073741823", "I1       +0000004095", "I2       -0000004095", "I3       -0000000000", "I4       +0000000000", "I5       +0000000000",
            "I6       +0000000006", "X        +1073741823"};
        for (int k = 0; k < 8; k++) {
            Kit.due("line " + k, Kit.line(b, 18, 1 + k), want[k]);
        }
        Kit.due("LIMIT", run(job("*JOB A 0 DUMP", HALT), 1).unit(18), 10);
        Kit.due("FAULT", run(job("*JOB A 50 DUMP", Kit.source("CON|7(3:3)", "END|0")), 1).unit(18), 10);
        Kit.due("not ERROR", run(job("*JOB A 50 DUMP", Kit.source("FOO|")), 1).unit(18), 1);
        Kit.due("not CARD", run(job("*JOB A 50 DUMP", "*LOAD\n"), 1).unit(18), 1);
        Kit.due("object cards, too", run(job("*JOB A 50 DUMP", "*LOAD\n     10000" + HLT + "\n     00000\n"), 1).unit(18), 10);
    }

    private static void dumpWords() {
        Kit.told("Then for each four words at 0, 4, 8 .. that are not all +0");
        for (int a : new int[] {0, 1, 2, 3, 4, 7, 8, 2000, 3995, 3996, 3999}) {
            SixBitBoard b = run(job("*JOB A 50 DUMP", Kit.source("ORIG|100", "HLT|", "ORIG|" + a, "CON|-0", "END|100")), 1);
            StringBuilder want = new StringBuilder(String.format(" %04d    ", a / 4 * 4));
            for (int k = 0; k < 4; k++) {
                want.append(k == a % 4 ? "-0000000000" : "+0000000000").append(k < 3 ? "    " : "");
            }
            Kit.due("two lines for " + a, b.unit(18), 11);
            Kit.due("word " + a, Kit.line(b, 18, a < 100 ? 9 : 10), want.toString());
        }
    }

    private static void blocksStay() {
        Kit.told("Blocks of tapes and disks stay for the next job");
        SixBitBoard b = run(job("*JOB A 50", Kit.source("OUT|W(2)", "OUT|W(9)", "HLT|", "W|CON|-7", "END|0")) + job("*JOB B 50", Kit.source("IN|100(2)", "IN|200(9)", "HLT|", "END|0")), 2);
        Kit.due("a tape's", b.word(100), -7);
        Kit.due("a disk's", b.word(200), -7);
    }

    private static void askedBehind() {
        Kit.told("What is asked behind is the last job's machine (of ERROR and CARD memory and registers as at first, time 0, all data cards); words below 0 are +0");
        String first = job("*JOB A 500", Kit.source("JMP|*+1", "ENTA|5", "ENT3|6", "ENTX|7", "CMPA|3000", "STA|300", "HLT|", "END|0"), "ONE");
        SixBitBoard b = new SixBitBoard();
        Kit.assemble(b, "ORIG|-3999", "CON|9", "ORIG|-1", "CON|9", "END|0");
        Kit.feed(b, first).jobs();
        Kit.due("below 0", b.word(-1), 0);
        Kit.due("far below 0", b.word(-3999), 0);
        long[] want = {5, 0, 0, 6, 0, 0, 0, 7, 1, 0, 1, 7};
        for (int k = 0; k <= 11; k++) {
            Kit.due("register " + k, b.register(k), want[k]);
        }
        Kit.due("memory", b.word(300), 5);
        Kit.due("time", b.time(), 1 + 3 + 2 + 2 + 10);
        Kit.due("cards left", b.unit(16), 1);
        for (String last : new String[] {job("*JOB B 50", Kit.source("CON|5", "FOO|"), "X", "Y", "*", "Z"), job("*JOB B 50", "*LOAD\n     10000" + HLT + "\nX\n", "X", "Y", "*", "Z")}) {
            b = run(first + last, 2);
            for (int k = 0; k <= 11; k++) {
                Kit.due("register " + k + " as at first", b.register(k), 0);
            }
            Kit.due("memory as at first", b.word(300) + b.word(0), 0);
            Kit.due("time 0", b.time(), 0);
            Kit.due("all data cards", b.unit(16), 2);
            Kit.due("state", b.state(), 9);
        }
    }
}
