/** Terms: faults, their order, and state() (promise 19). */
public final class FaultTest {
    public static void main(String[] args) {
        kinds();
        counter();
        touchNothing();
        Kit.close();
    }

    /** Runs a line behind one that costs 1 u, and looks at where it stops. */
    private static void fault(String ahead, String what, int kind) {
        SixBitBoard b = new SixBitBoard();
        Kit.assemble(b, ahead, what, "HLT", "END|0");
        Kit.due(ahead + " " + what + ", done", b.run(10), kind == 0 ? 3 : 1);
        Kit.due(ahead + " " + what + ", state", b.state(), kind == 0 ? 1 : 1 + kind);
        if (kind != 0) {
            Kit.due(ahead + " " + what + ", u stays", b.time(), 1);
            Kit.due(ahead + " " + what + ", counter stays", b.register(11), 1);
            Kit.due(ahead + " " + what + ", it is stopped", b.run(10), 0);
        }
    }

    private static void kinds() {
        String[] first = {"CON|7(3:3)", "CON|63(3:3),8(5:5)", "CON|4(4:4),5(5:5)", "CON|3(4:4),5(5:5)", "CON|6(4:4),6(5:5)",
            "CON|10(4:4),39(5:5)", "CON|6(4:4),40(5:5)", "CON|6(4:4),47(5:5)", "CON|4(4:4),48(5:5)", "CON|63(4:4),55(5:5)",
            "INT|", "CON|-1(0:2),7(3:3),8(5:5)"};
        for (String what : first) {
            fault("NOP", what, 1);
        }
        String[] second = {"LDA|4000", "LDA|-1", "STA|4000", "ADD|4000", "CMPA|-1", "STZ|4095", "SLA|-1", "SRC|-1", "LDA|4000(6)",
            "MOVE|3999(2)", "MOVE|-1(1)", "IN|3901(8)", "OUT|3901(8)", "OUT|3977(18)", "OUT|3985(17)", "OUT|3987(19)",
            "IN|3985(16)", "IN|-1(16)", "OUT|4000(20)", "IN|-1(63)", "IN|3977(18)", "OUT|3985(16)", "LD1|4000", "MOVE|3998(63)"};
        for (String what : second) {
            fault("NOP", what, 2);
        }
        fault("ENT1|3999", "MOVE|0(2)", 2);
        fault("ENN1|1", "MOVE|0(1)", 2);
        fault("ENT1|3999", "MOVE|0(1)", 0);
        fault("ENT2|3999", "LDA|1,2", 2);
        fault("ENT2|4000", "LDA|-1,2", 0);
        String[] third = {"LDA|0(6)", "LDA|0(17)", "LDX|0(63)", "LD1|0(8)", "STA|0(7)", "ADD|0(48)", "CMPX|0(16)", "STJ|0(47)",
            "MUL|0(14)", "DIV|0(6)"};
        for (String what : third) {
            fault("NOP", what, 3);
        }
        fault("ENT1|4095", "INC1|1", 4);
        fault("ENT1|4095", "ENT3|1,1", 4);
        fault("ENN1|4095", "ENN3|-1,1", 4);
        fault("NOP", "LD2|0", 0);
        fault("NOP", "LD2|1", 4);
        String[] fifth = {"JBUS|0(20)", "JRED|0(63)", "JBUS|-5(20)", "IN|0(20)", "OUT|3999(20)", "IOC|0(20)", "IOC|5000-1000(63)",
            "IN|0(17)", "IN|0(18)", "IN|0(19)", "OUT|0(16)", "IOC|0(16)", "IOC|0(17)", "IOC|0(19)", "IOC|1(18)", "IOC|1(8)",
            "IOC|-1(15)", "IN|3976(18)"};
        for (String what : fifth) {
            fault("NOP", what, 5);
        }
        fault("ENTX|64", "IOC|1(8)", 5);
        fault("ENTX|64", "IOC|0(8)", 6);
        fault("ENTX|64", "IN|0(8)", 6);
        fault("ENTX|64", "OUT|0(15)", 6);
        fault("ENNX|1", "OUT|0(9)", 6);
        fault("ENTX|63", "OUT|0(9)", 0);
        fault("ENNX|0", "OUT|0(9)", 0);
        fault("IOC|64(0)", "IN|0(0)", 6);
        fault("IOC|64(7)", "OUT|0(7)", 6);
        fault("IOC|63(7)", "OUT|0(7)", 0);
        fault("IOC|64(7)", "IOC|64(7)", 0);
        fault("NOP", "OUT|3984(17)", 0);
        fault("NOP", "OUT|3986(19)", 0);
        fault("NOP", "OUT|3976(18)", 0);
        fault("NOP", "OUT|3900(3)", 0);
        fault("NOP", "IN|3984(16)", 6);
        fault("NOP", "OUT|3984(16)", 5);
        fault("NOP", "IN|0(16)", 6);
        fault("NOP", "IN|4000(16)", 2);
        String[] seventh = {"JMP|4000", "JMP|-1", "JSJ|4000", "JNOV|4000", "JE|4095", "JAZ|-1", "JXNN|4000", "JRED|4000(0)"};
        for (String what : seventh) {
            fault("NOP", what, 7);
        }
        fault("NOP", "JAN|4000", 0);
        fault("NOP", "JBUS|4000(0)", 0);
        fault("NOP", "JOV|4000", 0);
        fault("OUT|0(19)", "JBUS|4000(19)", 7);
    }

    private static void counter() {
        SixBitBoard b = new SixBitBoard();
        Kit.assemble(b, "ORIG|3999", "NOP", "END|3999");
        Kit.due("one is done", b.run(9), 1);
        Kit.due("4000 is out of memory", b.state(), 3);
        Kit.due("counter", b.register(11), 4000);
        Kit.due("u", b.time(), 1);
        b = Kit.ran("ORIG|3999", "HLT", "END|3999");
        Kit.due("HLT is done", b.state(), 1);
        Kit.due("the counter goes on", b.register(11), 4000);
    }

    private static void touchNothing() {
        SixBitBoard b = Kit.ran("ENT1|3998", "LDA|=5=", "STA|3998", "MOVE|0(3)", "END|0");
        Kit.due("MOVE touches nothing", b.word(3998), 5);
        Kit.due("I1 stays", b.register(1), 3998);
        b = Kit.ran("LDA|=1073741823=", "INCA|1", "JOV|4000", "END|0");
        Kit.due("JOV 4000", b.state(), 8);
        Kit.due("overflow stays", b.register(9), 1);
        Kit.due("J stays", b.register(8), 0);
        b = new SixBitBoard();
        Kit.feed(b, "CARD\n").cards();
        Kit.assemble(b, "IN|3990(16)", "END|0");
        b.run(5);
        Kit.due("IN out of memory", b.state(), 3);
        Kit.due("the card stays", b.unit(16), 1);
        b = Kit.ran("OUT|0(1)", "IN|3950(1)", "END|0");
        Kit.due("the tape stays", b.unit(1), 1);
        Kit.due("no time goes on", b.time(), 1);
    }
}
