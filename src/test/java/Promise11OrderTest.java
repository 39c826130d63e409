/** Promise 11: code 108 READs both its bytes, at CELLS too; and the order of what is thrown. */
public final class Promise11OrderTest {
    public static void main(String[] args) {
        ordinary();
        noPageWrap();
        modulo();
        throughTheKey();
        throughOtherCells();
        rangeBeforeFault();
        Check.finish();
    }

    private static SixtyFive through(int word) {
        return Rig.with(0x6C, word % 256, word / 256);
    }

    private static void ordinary() {
        SixtyFive machine = through(100);
        machine.load(100, 0x3402L, 2);
        Check.equal("PC", machine.run(1), 0x234);
        Check.equal("get(4)", machine.get(Rig.PC), 0x234);
        Check.same("nothing else moves", Rig.registers(machine), "0 0 0 255 564 48 1 0 0 0");
    }

    private static void noPageWrap() {
        SixtyFive machine = through(0x2FF);
        machine.load(0x2FF, 0x1101L, 2);
        Check.equal("the byte behind 767 is 768", machine.run(1), 0x111);
    }

    private static void modulo() {
        SixtyFive far = through(0xFC00 + 100);
        far.load(100, 0xFEFFL, 2);
        Check.equal("w and the answer modulo 1024", far.run(1), 0xFFFE & 1023);
        SixtyFive last = through(1023);
        last.load(0, 2, 1);
        Check.equal("behind 1023 comes 0", last.run(1), 512);
    }

    private static void throughTheKey() {
        SixtyFive both = through(1008);
        both.press(5);
        Check.equal("1008, then 1009: the KEY twice", both.run(1), (133 + 256 * 133) & 1023);
        Check.equal("the KEY was taken", both.get(Rig.KEY), 0);
        Check.equal("a new one may be pressed", both.press(1), 129);
        SixtyFive low = through(1009);
        low.press(7);
        Check.equal("1009: the KEY, then the SECTOR's number", low.run(1), 135);
        Check.equal("taken", low.get(Rig.KEY), 0);
        SixtyFive high = through(1007);
        high.load(1007, 9, 1);
        high.press(3);
        Check.equal("1007, then 1008", high.run(1), (9 + 256 * 131) & 1023);
        Check.equal("not taken", high.get(Rig.KEY), 131);
        SixtyFive without = through(1008);
        Check.equal("without a KEY", without.run(1), 0);
    }

    private static void throughOtherCells() {
        // STA 1010, then JMP (1010).
        SixtyFive machine = Rig.with(0x8D, 0xF2, 0x03, 0x6C, 0xF2, 0x03);
        machine.put(Rig.A, 6);
        Check.equal("1010 is the SECTOR's number, 1011 is 0", machine.run(2), 6);
        SixtyFive before = Rig.with(0x8D, 0xF2, 0x03, 0x6C, 0xF1, 0x03);
        before.put(Rig.A, 3);
        Check.equal("1009 and 1010", before.run(2), 768);
        for (int cell = 1011; cell < 1023; cell++) {
            Check.equal("cells from " + cell + " on are 0", through(cell).run(1), 0);
        }
    }

    private static void rangeBeforeFault() {
        SixtyFive machine = new SixtyFive();
        Check.refuses("run(0) at code 0", machine, () -> machine.run(0));
        Check.refuses("run(21) at code 0", machine, () -> machine.run(21));
        machine.press(1);
        Check.refuses("press(128) with a KEY", machine, () -> machine.press(128));
    }
}
