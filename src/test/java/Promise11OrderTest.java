import java.util.function.Supplier;

/** Promise 11: code 108 READs both its bytes, at CELLS too; and the order of what is thrown. */
public final class Promise11OrderTest {
    public static void main(String[] args) {
        ordinary();
        bothBytes();
        wordModulo();
        answerModulo();
        throughTheKey();
        throughTheNumber();
        throughOtherCells();
        ownWordFromCells();
        rangeBeforeFault();
        throwingChangesNothing();
        everyCallOfAnObject();
        Check.finish();
    }

    private static SixtyFive through(int word) {
        return Rig.at(0x280, 0x6C, word % 256, word / 256);
    }

    private static void ordinary() {
        Check.sentence("CODE 108: PC is what is READ at w plus 256 times what is READ at w plus 1");
        SixtyFive machine = through(100);
        machine.load(100, 0x3402L, 2);
        machine.put(Rig.X, 9);
        machine.put(Rig.Y, 8);
        Check.equal("PC", machine.run(1), 0x234);
        Check.same("nothing else moves", Rig.registers(machine), "0 9 8 255 564 48 1 0 0 0");
        Supplier<SixtyFive> ready = () -> through(100);
        Supplier<SixtyFive> done = () -> {
            SixtyFive again = ready.get();
            again.run(1);
            return again;
        };
        Check.same("no byte changes", Rig.kept(done), Rig.kept(ready));
    }

    private static void bothBytes() {
        Check.sentence("plus 256 times what is READ at w plus 1");
        // The word over each page's end: the second byte is the one behind, not the page's first.
        int[] words = {0, 0x7F, 0xFE, 0xFF, 0x1FF, 0x2FF, 0x3EE};
        for (int word : words) {
            SixtyFive machine = through(word);
            machine.load(word, 0x1101L, 2);
            Check.equal("through " + word, machine.run(1), 0x111);
        }
        int[][] rows = {{0, 0, 0}, {255, 0, 255}, {0, 1, 256}, {255, 3, 1023}};
        for (int[] row : rows) {
            SixtyFive machine = through(100);
            Rig.bytes(machine, 100, row[0], row[1]);
            Check.equal("bytes " + row[0] + " and " + row[1], machine.run(1), row[2]);
        }
    }

    private static void wordModulo() {
        Check.sentence("every ADDRESS that is worked out is taken modulo 1024");
        int[] words = {1024 + 100, 2048 + 100, 0xFC00 + 100};
        for (int word : words) {
            SixtyFive machine = through(word);
            machine.load(100, 0x3402L, 2);
            Check.equal("through " + word, machine.run(1), 0x234);
        }
        int[] last = {1023, 2047, 65535};
        for (int word : last) {
            SixtyFive machine = through(word);
            machine.load(0, 2, 1);
            Check.equal("behind 1023 comes 0: through " + word, machine.run(1), 512);
        }
        SixtyFive first = through(1024);
        first.load(0, 0x3402L, 2);
        Check.equal("through 1024", first.run(1), 0x234);
    }

    private static void answerModulo() {
        Check.sentence("(so at CELLS, too), modulo 1024");
        int[][] rows = {{255, 3, 1023}, {0, 4, 0}, {1, 4, 1}, {255, 7, 1023}, {0, 252, 0}, {254, 255, 1022},
            {255, 255, 1023}};
        for (int[] row : rows) {
            SixtyFive machine = through(100);
            Rig.bytes(machine, 100, row[0], row[1]);
            Check.equal("bytes " + row[0] + " and " + row[1], machine.run(1), row[2]);
            Check.equal("get(4)", machine.get(Rig.PC), row[2]);
        }
    }

    private static void throughTheKey() {
        Check.sentence("(so at CELLS, too)");
        SixtyFive both = through(1008);
        both.press(5);
        Check.equal("1008, then 1009: the KEY twice", both.run(1), (133 + 256 * 133) & 1023);
        Check.equal("the KEY was taken", both.get(Rig.KEY), 0);
        Check.equal("a new one may be pressed", both.press(1), 129);
        SixtyFive low = through(1009);
        low.press(7);
        Check.equal("1009: the KEY, then the SECTOR's number", low.run(1), 135);
        Check.equal("taken", low.get(Rig.KEY), 0);
        SixtyFive high = through(1007);
        high.load(1007, 9, 1);
        high.press(3);
        Check.equal("1007, then 1008", high.run(1), (9 + 256 * 131) & 1023);
        Check.equal("not taken", high.get(Rig.KEY), 131);
        SixtyFive before = through(1006);
        before.load(1006, 0x0902L, 2);
        before.press(3);
        Check.equal("1006, then 1007", before.run(1), 0x209 & 1023);
        Check.equal("not taken", before.get(Rig.KEY), 131);
        SixtyFive behind = through(1010);
        behind.press(3);
        Check.equal("1010, then 1011", behind.run(1), 0);
        Check.equal("not taken", behind.get(Rig.KEY), 131);
        Check.equal("1008 without a KEY", through(1008).run(1), 0);
        Check.equal("1009 without a KEY", through(1009).run(1), 0);
    }

    private static void throughTheNumber() {
        Check.sentence("1010: the SECTOR's number");
        // STA 1010, then CODE 108.
        int[][] rows = {{1010, 7, 7}, {1010, 0, 0}, {1009, 3, 768}, {1009, 4, 0}, {1009, 7, 768}};
        for (int[] row : rows) {
            SixtyFive machine = Rig.with(0x8D, 0xF2, 0x03, 0x6C, row[0] % 256, row[0] / 256);
            machine.put(Rig.A, row[1]);
            Check.equal("through " + row[0] + " with number " + row[1], machine.run(2), row[2]);
            Check.equal("the number stays", machine.get(Rig.SECTOR), row[1]);
        }
    }

    private static void throughOtherCells() {
        Check.sentence("other CELLS: 0");
        for (int cell = 1011; cell < 1023; cell++) {
            SixtyFive machine = through(cell);
            machine.load(0, 0x0102L, 2);
            Check.equal("cells from " + cell + " on are 0", machine.run(1), 0);
        }
    }

    private static void ownWordFromCells() {
        Check.sentence("0, 1 or 2 bytes behind it: b, and h (all READ)");
        // CODE 108 at 1007 with the KEY 0xF0: w is 0xF0F0, 240; the KEY is gone by then.
        SixtyFive open = Rig.at(1007, 0x6C);
        open.press(0x70);
        open.load(240, 0x3402L, 2);
        Check.equal("w is the KEY twice", open.run(1), 0x234);
        Check.equal("which was taken", open.get(Rig.KEY), 0);
    }

    private static void rangeBeforeFault() {
        Check.sentence("What is thrown, in this order: IllegalArgumentException: a number out of range; "
                + "others as said.");
        int[] programs = {0x00, 0x03, 0x8D};
        for (int code : programs) {
            Supplier<SixtyFive> maker = () -> {
                SixtyFive machine = Rig.wide(code, 960);
                machine.protect(true);
                machine.press(1);
                return machine;
            };
            Check.failsWithoutChange("run(0)", maker, IllegalArgumentException.class, m -> m.run(0));
            Check.failsWithoutChange("run(21)", maker, IllegalArgumentException.class, m -> m.run(21));
            Check.failsWithoutChange("press(128)", maker, IllegalArgumentException.class, m -> m.press(128));
            Check.failsWithoutChange("press(-1)", maker, IllegalArgumentException.class, m -> m.press(-1));
            Check.failsWithoutChange("press(127)", maker, IllegalStateException.class, m -> m.press(127));
        }
    }

    private static void throwingChangesNothing() {
        Check.sentence("A call that throws changes nothing, but as said.");
        Check.refuses("load(1001, -1, 8), of which seven bytes would fit", m -> m.load(1001, -1L, 8));
        Check.refuses("insert(6, 25, -1, 8), of which seven bytes would fit", m -> m.insert(6, 25, -1L, 8));
        Check.refuses("put(4, 1024)", m -> m.put(4, 1024));
        Check.refuses("put(5, 256)", m -> m.put(5, 256));
        Check.refuses("run(21)", m -> m.run(21));
        Check.refuses("peek(1009), where a READ takes the KEY", m -> m.peek(1009));
        Check.refuses("get(10)", m -> m.get(10));
        Check.refuses("sector(8, 0)", m -> m.sector(8, 0));
        // A FAULT changes what is said: the latest FAULT and what was done before it.
        Check.faults("FAULT 4", Rig::used, 4);
    }

    private static void everyCallOfAnObject() {
        Check.sentence("An object is used for at most 512 calls after it has been made");
        // JMP to itself; 510 calls, of which a third throws, then the last two.
        SixtyFive machine = Rig.wide(0x4C, 512);
        for (int i = 0; i < 170; i++) {
            Check.equal("run(20)", machine.run(20), 512);
            Check.equal("load", machine.load(i, i + 1, 1), i + 1);
            Check.fails("run(21)", IllegalArgumentException.class, () -> machine.run(21));
        }
        Check.equal("the 512th call", machine.get(Rig.DONE), 3400);
    }
}
