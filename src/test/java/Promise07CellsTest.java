import java.util.function.Supplier;

/** Promise 7: what a program READs and WRITES at the CELLS, the key and the drive. */
public final class Promise07CellsTest {
    public static void main(String[] args) {
        firstCell();
        lookingAtTheKey();
        takingTheKey();
        everyOperandIsRead();
        readingTheNumber();
        readingOtherCells();
        choosingASector();
        changingTheNumber();
        readingASector();
        writingASector();
        writingOtherCells();
        changingOtherCells();
        Check.finish();
    }

    /** A machine with a KEY, a full drive and memory, SECTOR 6 and this instruction at its PC. */
    private static SixtyFive full(int code, int word) {
        SixtyFive machine = Rig.used();
        machine.protect(false);
        Rig.bytes(machine, 512, code, word % 256, word / 256);
        machine.put(Rig.PC, 512);
        return machine;
    }

    private static int read(SixtyFive machine, int address) {
        Rig.bytes(machine, 512, 0xAD, address % 256, address / 256);
        machine.put(Rig.PC, 512);
        machine.run(1);
        return machine.get(Rig.A);
    }

    private static void firstCell() {
        Check.sentence("1008 .. 1023 are CELLS");
        SixtyFive machine = new SixtyFive();
        machine.press(5);
        machine.load(1007, 9, 1);
        machine.load(0, 8, 1);
        Check.equal("1007 is a byte", read(machine, 1007), 9);
        Check.equal("1008 is a CELL", read(machine, 1008), 133);
        Check.equal("1023 is one", read(machine, 1023), 0);
        Check.equal("1024 is the byte at 0", read(machine, 1024), 8);
    }

    private static void lookingAtTheKey() {
        Check.sentence("1008: the KEY, 128 plus a code 0 .. 127, or 0 without one");
        SixtyFive without = new SixtyFive();
        without.put(Rig.A, 5);
        Check.equal("without one", read(without, 1008), 0);
        Check.equal("Z is 1", without.get(Rig.FLAGS), Rig.ONES + Rig.Z_BIT);
        int[] codes = {0, 1, 126, 127};
        for (int code : codes) {
            SixtyFive machine = new SixtyFive();
            machine.press(code);
            Check.equal("KEY " + code, read(machine, 1008), 128 + code);
            Check.equal("N is 1", machine.get(Rig.FLAGS), Rig.ONES + Rig.N_BIT);
            Check.equal("it stays", machine.get(Rig.KEY), 128 + code);
            Check.equal("and is READ again", read(machine, 1008), 128 + code);
        }
    }

    private static void takingTheKey() {
        Check.sentence("1009: the KEY, and there is none any more");
        SixtyFive without = new SixtyFive();
        without.put(Rig.A, 5);
        Check.equal("without one", read(without, 1009), 0);
        Check.equal("still none", without.get(Rig.KEY), 0);
        int[] codes = {0, 1, 126, 127};
        for (int code : codes) {
            SixtyFive machine = new SixtyFive();
            machine.press(code);
            Check.equal("KEY " + code, read(machine, 1009), 128 + code);
            Check.equal("none any more", machine.get(Rig.KEY), 0);
            Check.equal("READ again", read(machine, 1009), 0);
            Check.equal("nor at 1008", read(machine, 1008), 0);
            Check.equal("another may be pressed", machine.press(127 - code), 255 - code);
            Check.equal("and is READ", read(machine, 1008), 255 - code);
        }
    }

    private static void everyOperandIsRead() {
        Check.sentence("For others the OPERAND is what is READ at E (only if it is used).");
        // ORA, AND, EOR, ADC, LDA, CMP, SBC, BIT, CPY, CPX, LDX, LDY use their OPERAND.
        int[] users = {0x0D, 0x2D, 0x4D, 0x6D, 0xAD, 0xCD, 0xED, 0x2C, 0xCC, 0xEC, 0xAE, 0xAC};
        for (int code : users) {
            SixtyFive machine = Rig.wide(code, 1009);
            machine.press(1);
            machine.run(1);
            Check.equal("code " + code + " takes the KEY", machine.get(Rig.KEY), 0);
        }
        // STA, STX, STY, JMP and JSR have 1009 as their address and use nothing there.
        int[] others = {0x8D, 0x8E, 0x8C, 0x4C, 0x20};
        for (int code : others) {
            SixtyFive machine = Rig.wide(code, 1009);
            machine.press(1);
            Check.equal("code " + code, Rig.step(machine), 0);
            Check.equal("code " + code + " leaves the KEY", machine.get(Rig.KEY), 129);
        }
    }

    private static void readingTheNumber() {
        Check.sentence("1010: the SECTOR's number");
        SixtyFive machine = new SixtyFive();
        machine.put(Rig.A, 9);
        Check.equal("at first", read(machine, 1010), 0);
        for (int number = 7; number >= 0; number--) {
            // STX 1010
            Rig.bytes(machine, 600, 0x8E, 0xF2, 0x03);
            machine.put(Rig.PC, 600);
            machine.put(Rig.X, number);
            machine.run(1);
            Check.equal("after STX 1010", read(machine, 1010), number);
            Check.equal("it stays", machine.get(Rig.SECTOR), number);
        }
    }

    private static void readingOtherCells() {
        Check.sentence("other CELLS: 0");
        for (int cell = 1011; cell <= 1023; cell++) {
            int address = cell;
            Supplier<SixtyFive> readIt = () -> {
                SixtyFive machine = full(0xAD, address);
                Check.equal("LDA " + address, machine.run(1), 515);
                return machine;
            };
            Check.equal("A after LDA " + cell, readIt.get().get(Rig.A), 0);
            Check.equal("the KEY stays", readIt.get().get(Rig.KEY), 205);
            Check.same("and no byte moves", Rig.kept(readIt), Rig.kept(() -> full(0xAD, address)));
        }
    }

    private static void choosingASector() {
        Check.sentence("1010: the SECTOR's number, 0 .. 7; 8 or above: FAULT 3");
        int[] codes = {0x8D, 0x8E, 0x8C};
        for (int register = 0; register < 3; register++) {
            for (int value = 0; value <= 255; value++) {
                SixtyFive machine = Rig.wide(codes[register], 1010);
                machine.put(register, value);
                Check.equal("WRITE " + value, Rig.step(machine), value < 8 ? 0 : 3);
                Check.equal("the number", machine.get(Rig.SECTOR), value < 8 ? value : 0);
                Check.equal("PC", machine.get(Rig.PC), value < 8 ? 515 : 512);
            }
        }
        int[] right = {0, 5, 7};
        for (int value : right) {
            Supplier<SixtyFive> chosen = () -> {
                SixtyFive machine = choosing(value);
                machine.run(1);
                return machine;
            };
            int[] due = Rig.row(choosing(value));
            due[Rig.PC] = 515;
            due[Rig.DONE]++;
            due[Rig.SECTOR] = value;
            Check.same("STA 1010 with " + value + " moves the number", Rig.registers(chosen.get()), Rig.text(due));
            Check.same("and no byte", Rig.kept(chosen), Rig.kept(() -> choosing(value)));
        }
        int[] wrong = {8, 9, 128, 255};
        for (int value : wrong) {
            Check.faults("STA 1010 with " + value, () -> choosing(value), 3);
        }
    }

    private static SixtyFive choosing(int value) {
        SixtyFive machine = full(0x8D, 1010);
        machine.put(Rig.A, value);
        return machine;
    }

    private static void changingTheNumber() {
        Check.sentence("8 or above: FAULT 3");
        // Code, C before, the number before, the number after or the FAULT below 0.
        int[][] rows = {{0xEE, 0, 6, 7}, {0xEE, 0, 7, -3}, {0xCE, 0, 1, 0}, {0xCE, 0, 0, -3}, {0x0E, 0, 3, 6},
            {0x0E, 0, 4, -3}, {0x2E, 1, 3, 7}, {0x2E, 0, 4, -3}, {0x2E, 1, 4, -3}, {0x4E, 1, 7, 3}, {0x4E, 0, 1, 0},
            {0x6E, 0, 7, 3}, {0x6E, 1, 7, -3}, {0x6E, 1, 0, -3}};
        for (int[] row : rows) {
            String what = "code " + row[0] + " on 1010 with C " + row[1] + " and number " + row[2];
            Supplier<SixtyFive> maker = () -> {
                SixtyFive machine = Rig.with(0x8D, 0xF2, 0x03, row[0], 0xF2, 0x03);
                machine.put(Rig.A, row[2]);
                machine.run(1);
                machine.put(Rig.FLAGS, row[1]);
                return machine;
            };
            if (row[3] < 0) {
                Check.faults(what, maker, -row[3]);
            } else {
                SixtyFive machine = maker.get();
                Check.equal(what, Rig.step(machine), 0);
                Check.equal(what, machine.get(Rig.SECTOR), row[3]);
            }
        }
    }

    private static void readingASector() {
        Check.sentence("1011: the SECTOR is read into MEMORY 768 .. 799");
        int[] values = {0, 1, 255};
        for (int number = 0; number < 8; number++) {
            for (int value : values) {
                Supplier<SixtyFive> after = moved(1011, number, value);
                int[] due = Rig.memory(prepared(1011, number, value));
                int[] drive = Rig.drive(prepared(1011, number, value));
                System.arraycopy(drive, number * 32, due, 768, 32);
                Check.same("memory with SECTOR " + number, Rig.text(Rig.memory(after)), Rig.text(due));
                Check.same("the drive stays", Rig.text(Rig.drive(after)), Rig.text(drive));
            }
        }
    }

    private static void writingASector() {
        Check.sentence("1012: those 32 bytes are written into the SECTOR");
        int[] values = {0, 1, 255};
        for (int number = 0; number < 8; number++) {
            for (int value : values) {
                Supplier<SixtyFive> after = moved(1012, number, value);
                int[] memory = Rig.memory(prepared(1012, number, value));
                int[] due = Rig.drive(prepared(1012, number, value));
                System.arraycopy(memory, 768, due, number * 32, 32);
                Check.same("the drive with SECTOR " + number, Rig.text(Rig.drive(after)), Rig.text(due));
                Check.same("the memory stays", Rig.text(Rig.memory(after)), Rig.text(memory));
            }
        }
    }

    /** A full machine with this SECTOR, at an STA of the value to the CELL. */
    private static Supplier<SixtyFive> prepared(int cell, int number, int value) {
        return () -> {
            SixtyFive machine = full(0x8E, 1010);
            Rig.bytes(machine, 515, 0x8D, cell % 256, cell / 256);
            machine.put(Rig.X, number);
            machine.put(Rig.A, value);
            // PROTECTED hinders neither way: 768 .. 799 are open.
            machine.protect(true);
            machine.run(1);
            return machine;
        };
    }

    private static Supplier<SixtyFive> moved(int cell, int number, int value) {
        Supplier<SixtyFive> before = prepared(cell, number, value);
        return () -> {
            SixtyFive machine = before.get();
            int[] due = Rig.row(machine);
            Check.equal("STA " + cell, machine.run(1), 518);
            due[Rig.PC] = 518;
            due[Rig.DONE]++;
            Check.same("nothing else moves", Rig.registers(machine), Rig.text(due));
            return machine;
        };
    }

    private static void writingOtherCells() {
        Check.sentence("others: nothing");
        int[] cells = {1008, 1009, 1013, 1014, 1015, 1016, 1017, 1018, 1019, 1020, 1021, 1022, 1023};
        for (int cell : cells) {
            Supplier<SixtyFive> before = () -> full(0x8D, cell);
            Supplier<SixtyFive> after = () -> {
                SixtyFive machine = before.get();
                Check.equal("STA " + cell, Rig.step(machine), 0);
                return machine;
            };
            int[] due = Rig.row(before.get());
            due[Rig.PC] = 515;
            due[Rig.DONE]++;
            Check.same("registers, KEY and number after STA " + cell, Rig.registers(after.get()), Rig.text(due));
            Check.same("all bytes after STA " + cell, Rig.kept(after), Rig.kept(before));
        }
        SixtyFive without = Rig.wide(0x8D, 1008);
        without.put(Rig.A, 200);
        without.run(1);
        Check.equal("a WRITE of 1008 makes no KEY", without.get(Rig.KEY), 0);
    }

    private static void changingOtherCells() {
        Check.sentence("It is READ, then WRITTEN at E");
        SixtyFive taken = Rig.wide(0xEE, 1009);
        taken.press(127);
        Check.equal("INC 1009", taken.run(1), 515);
        Check.equal("takes the KEY and writes nothing", taken.get(Rig.KEY), 0);
        Check.equal("255 plus 1 is 0", taken.get(Rig.FLAGS), Rig.ONES + Rig.Z_BIT);
        SixtyFive look = Rig.wide(0x0E, 1008);
        look.press(3);
        look.run(1);
        Check.equal("ASL 1008 leaves the KEY", look.get(Rig.KEY), 131);
        Check.equal("C is its bit 7", look.get(Rig.FLAGS), Rig.ONES + Rig.C_BIT);
        SixtyFive load = Rig.wide(0xEE, 1011);
        load.insert(0, 31, 99, 1);
        load.run(1);
        Check.equal("INC 1011 is a WRITE, too", load.peek(799), 99);
        Check.equal("of 0 plus 1", load.get(Rig.FLAGS), Rig.ONES);
        SixtyFive store = Rig.wide(0xCE, 1012);
        store.load(799, 98, 1);
        store.run(1);
        Check.equal("DEC 1012 is a WRITE, too", store.sector(0, 31), 98);
        Check.equal("of 0 minus 1", store.get(Rig.FLAGS), Rig.ONES + Rig.N_BIT);
    }
}
