/** Promise 7: the modes and the addresses they lead to. */
public final class Promise07ModesTest {
    private static final int MARK = 0x5A;

    public static void main(String[] args) {
        zero();
        wide();
        inx();
        iny();
        next();
        changesInPlace();
        Check.finish();
    }

    /** LDA in some mode: the program with these registers reads at this address, STA writes there. */
    private static void leads(String what, int loadCode, int b, int h, int[] xy, int due) {
        SixtyFive machine = prepared(loadCode, b, h, xy);
        machine.load(due, MARK, 1);
        Check.equal(what + " reads without FAULT", Rig.step(machine), 0);
        Check.equal(what + " reads at " + due, machine.get(Rig.A), MARK);
        // In G 1 the store has K 4 where the load has K 5.
        SixtyFive other = prepared(loadCode - 32, b, h, xy);
        other.put(Rig.A, MARK);
        Check.equal(what + " writes without FAULT", Rig.step(other), 0);
        Check.equal(what + " writes at " + due, other.peek(due), MARK);
        Check.equal(what + " a store leaves the flags", other.get(Rig.FLAGS), 48);
    }

    private static SixtyFive prepared(int code, int b, int h, int[] xy) {
        SixtyFive machine = Rig.with(code, b, h);
        machine.put(Rig.X, xy[0]);
        machine.put(Rig.Y, xy[1]);
        // Pointers in the zero page: at 0x40 to 0x0310, at 0xFF and 0 to 0x0320, at 0x60 to 0xFFF0.
        Rig.bytes(machine, 0x40, 0x10, 0x03);
        Rig.bytes(machine, 0xFF, 0x20);
        Rig.bytes(machine, 0x00, 0x03);
        Rig.bytes(machine, 0x60, 0xF0, 0xFF);
        return machine;
    }

    private static void zero() {
        leads("ZERO", 0xA5, 0x33, 0, new int[] {9, 8}, 0x33);
        leads("ZERO 255", 0xA5, 255, 0, new int[] {9, 8}, 255);
        leads("ZEROX", 0xB5, 0x33, 0, new int[] {9, 8}, 0x3C);
        leads("ZEROX around", 0xB5, 0xF0, 0, new int[] {0x20, 8}, 0x10);
        zeroY("ZEROY", 0x33, 9, 0x3C);
        zeroY("ZEROY around", 0xF0, 0x20, 0x10);
        zeroXOfY("ZEROX for Y around", 0xF0, 0x20, 0x10);
    }

    private static void zeroY(String what, int b, int y, int due) {
        SixtyFive machine = Rig.with(0xB6, b, 0x96, b + 1);
        machine.put(Rig.Y, y);
        machine.load(due, MARK, 1);
        machine.run(2);
        Check.equal(what + " LDX", machine.get(Rig.X), MARK);
        Check.equal(what + " STX", machine.peek(due + 1), MARK);
    }

    private static void zeroXOfY(String what, int b, int x, int due) {
        SixtyFive machine = Rig.with(0xB4, b, 0x94, b + 1);
        machine.put(Rig.X, x);
        machine.load(due, MARK, 1);
        machine.run(2);
        Check.equal(what + " LDY", machine.get(Rig.Y), MARK);
        Check.equal(what + " STY", machine.peek(due + 1), MARK);
    }

    private static void wide() {
        leads("WIDE", 0xAD, 0x34, 0x03, new int[] {9, 8}, 0x334);
        leads("WIDE modulo 1024", 0xAD, 0x34, 0xFF, new int[] {9, 8}, 0x334);
        leads("WIDEX", 0xBD, 0x34, 0x03, new int[] {9, 8}, 0x33D);
        leads("WIDEX over a page", 0xBD, 0xFF, 0x02, new int[] {0x20, 8}, 0x31F);
        leads("WIDEX modulo 1024", 0xBD, 0xF8, 0x03, new int[] {0x20, 8}, 0x18);
        leads("WIDEY", 0xB9, 0x34, 0x03, new int[] {9, 8}, 0x33C);
        leads("WIDEY over a page", 0xB9, 0xF0, 0x02, new int[] {9, 0x20}, 0x310);
        leads("WIDEY modulo 1024", 0xB9, 0xFF, 0xFF, new int[] {9, 0x11}, 0x10);
        SixtyFive machine = Rig.with(0xBE, 0xF0, 0x02, 0xBC, 0x80, 0x02);
        machine.put(Rig.Y, 0x20);
        machine.load(0x310, 0x90, 1);
        machine.run(2);
        Check.equal("LDX WIDEY", machine.get(Rig.X), 0x90);
        Check.equal("LDY WIDEX", machine.get(Rig.Y), 0x90);
    }

    private static void inx() {
        leads("INX", 0xA1, 0x30, 0, new int[] {0x10, 8}, 0x310);
        leads("INX around", 0xA1, 0xC0, 0, new int[] {0x80, 8}, 0x310);
        leads("INX at 255", 0xA1, 0xF0, 0, new int[] {0x0F, 8}, 0x320);
        SixtyFive machine = prepared(0x81, 0x60, 0, new int[] {0, 0});
        machine.put(Rig.A, MARK);
        Check.equal("INX modulo 1024 is a cell", Rig.step(machine), 0);
        Check.equal("nothing is chosen", machine.get(Rig.SECTOR), 0);
    }

    private static void iny() {
        leads("INY", 0xB1, 0x40, 0, new int[] {0x10, 8}, 0x318);
        leads("INY over a page", 0xB1, 0x50, 0, new int[] {0, 0x7F}, 0x7F);
        leads("INY at 255", 0xB1, 0xFF, 0, new int[] {9, 5}, 0x325);
        leads("INY modulo 1024", 0xB1, 0x60, 0, new int[] {9, 0x21}, 0x11);
    }

    private static void next() {
        int[] codes = {0xA9, 0xA2, 0xA0};
        for (int register = 0; register < 3; register++) {
            for (int value = 0; value <= 255; value++) {
                SixtyFive machine = Rig.with(codes[register], value);
                machine.put(Rig.FLAGS, 0xFF);
                Check.equal("NEXT", machine.run(1), 514);
                Check.equal("register " + register, machine.get(register), value);
                Check.equal("flags", machine.get(Rig.FLAGS),
                        48 + 64 + 1 + (value == 0 ? 2 : 0) + (value >= 128 ? 128 : 0));
            }
        }
    }

    // ASL, ROL, LSR, ROR, DEC, INC in each of their modes, with X 0x20 and C 1, on the byte 0x42.
    private static void changesInPlace() {
        int[] ks = {0, 1, 2, 3, 6, 7};
        int[] due = {0x84, 0x85, 0x21, 0xA1, 0x41, 0x43};
        for (int i = 0; i < ks.length; i++) {
            int code = ks[i] * 32 + 2;
            changes(code + 4, 0xF0, 0x03, 0xF0, due[i]);
            changes(code + 12, 0xF0, 0x02, 0x2F0, due[i]);
            changes(code + 20, 0xF0, 0x03, 0x10, due[i]);
            changes(code + 28, 0xF0, 0x02, 0x310, due[i]);
            changes(code + 28, 0xF0, 0xFF, 0x10, due[i]);
        }
    }

    private static void changes(int code, int b, int h, int address, int due) {
        SixtyFive machine = Rig.with(code, b, h);
        machine.put(Rig.X, 0x20);
        machine.put(Rig.Y, 0x07);
        machine.put(Rig.FLAGS, 1);
        machine.load(address, 0x42, 1);
        machine.run(1);
        Check.equal("code " + code + " at " + address, machine.peek(address), due);
        Check.equal("code " + code + " leaves A", machine.get(Rig.A), 0);
    }
}
