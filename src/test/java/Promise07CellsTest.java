/** Promise 7: the key and the drive as a program reads and writes them. */
public final class Promise07CellsTest {
    public static void main(String[] args) {
        readingTheKey();
        onlyUsedOperandsAreRead();
        changingCells();
        choosingSectors();
        readingAndWritingSectors();
        emptyCells();
        keyTakenBeforeAFault();
        Check.finish();
    }

    private static SixtyFive on(int code, int address) {
        return Rig.with(code, address % 256, address / 256);
    }

    private static void readingTheKey() {
        SixtyFive machine = Rig.with(0xAD, 0xF0, 0x03, 0xAE, 0xF1, 0x03, 0xAC, 0xF1, 0x03, 0xAD, 0xF0, 0x03);
        machine.press(0);
        machine.run(1);
        Check.equal("1008 is the KEY", machine.get(Rig.A), 128);
        Check.equal("which stays", machine.get(Rig.KEY), 128);
        machine.run(1);
        Check.equal("1009 is the KEY", machine.get(Rig.X), 128);
        Check.equal("which is gone", machine.get(Rig.KEY), 0);
        machine.put(Rig.Y, 5);
        machine.run(2);
        Check.equal("1009 without a KEY", machine.get(Rig.Y), 0);
        Check.equal("1008 without a KEY", machine.get(Rig.A), 0);
        // ORA, AND, EOR, ADC, LDA, CMP, SBC, BIT, CPY, CPX, LDX, LDY at 1009 all use their OPERAND.
        int[] codes = {0x0D, 0x2D, 0x4D, 0x6D, 0xAD, 0xCD, 0xED, 0x2C, 0xCC, 0xEC, 0xAE, 0xAC};
        for (int code : codes) {
            SixtyFive each = on(code, 1009);
            each.press(1);
            each.run(1);
            Check.equal("code " + code + " takes the KEY", each.get(Rig.KEY), 0);
        }
    }

    private static void onlyUsedOperandsAreRead() {
        // STA, STX, STY, JMP and JSR have 1009 as their address and read nothing there.
        int[] codes = {0x8D, 0x8E, 0x8C, 0x4C, 0x20};
        for (int code : codes) {
            SixtyFive machine = on(code, 1009);
            machine.press(1);
            Check.equal("code " + code, Rig.step(machine), 0);
            Check.equal("code " + code + " leaves the KEY", machine.get(Rig.KEY), 129);
        }
    }

    private static void changingCells() {
        SixtyFive key = on(0xEE, 1009);
        key.press(127);
        Check.equal("INC 1009", key.run(1), 515);
        Check.equal("takes the KEY", key.get(Rig.KEY), 0);
        Check.equal("255 plus 1 is 0", key.get(Rig.FLAGS), 48 + 2);
        SixtyFive look = on(0x0E, 1008);
        look.press(3);
        look.run(1);
        Check.equal("ASL 1008 leaves the KEY", look.get(Rig.KEY), 131);
        Check.equal("C is its bit 7", look.get(Rig.FLAGS), 48 + 1);
        SixtyFive sector = on(0xEE, 1010);
        for (int number = 1; number <= 7; number++) {
            sector.put(Rig.PC, 512);
            sector.run(1);
            Check.equal("INC 1010", sector.get(Rig.SECTOR), number);
        }
        sector.put(Rig.PC, 512);
        sector.put(Rig.FLAGS, 0xC3);
        Check.equal("INC 1010 from 7", Rig.step(sector), 3);
        Check.equal("the number stays", sector.get(Rig.SECTOR), 7);
        Check.equal("the flags stay", sector.get(Rig.FLAGS), 0xF3);
        SixtyFive down = on(0xCE, 1010);
        Check.equal("DEC 1010 from 0", Rig.step(down), 3);
        SixtyFive half = Rig.with(0x4E, 0xF2, 0x03);
        half.load(600, 0x8DF203L, 3);
        half.put(Rig.PC, 600);
        half.put(Rig.A, 7);
        half.run(1);
        half.put(Rig.PC, 512);
        half.run(1);
        Check.equal("LSR 1010 from 7", half.get(Rig.SECTOR), 3);
        Check.equal("C is bit 0", half.get(Rig.FLAGS), 48 + 1);
    }

    private static void choosingSectors() {
        for (int value = 0; value <= 255; value++) {
            SixtyFive machine = Rig.with(0x8E, 0xF2, 0x03, 0xAC, 0xF2, 0x03);
            machine.put(Rig.X, value);
            Check.equal("STX 1010 of " + value, Rig.step(machine), value < 8 ? 0 : 3);
            Check.equal("get(8)", machine.get(Rig.SECTOR), value < 8 ? value : 0);
            if (value < 8) {
                machine.run(1);
                Check.equal("READ at 1010", machine.get(Rig.Y), value);
            }
        }
    }

    private static void readingAndWritingSectors() {
        for (int number = 0; number < 8; number++) {
            // STX 1010, STA 1011, STA 1012 behind a change of two bytes.
            SixtyFive machine = Rig.with(0x8E, 0xF2, 0x03, 0x8D, 0xF3, 0x03, 0x8D, 0xF4, 0x03);
            for (int sector = 0; sector < 8; sector++) {
                for (int at = 0; at < 32; at++) {
                    machine.insert(sector, at, sector * 32 + at, 1);
                }
            }
            machine.load(767, 0xEE, 1);
            machine.load(800, 0xDD, 1);
            machine.put(Rig.X, number);
            machine.put(Rig.A, 3);
            Check.equal("read a sector", machine.run(2), 518);
            for (int at = 0; at < 32; at++) {
                Check.equal("byte " + at + " of " + number, machine.peek(768 + at), number * 32 + at);
            }
            Check.equal("not before", machine.peek(767), 0xEE);
            Check.equal("not behind", machine.peek(800), 0xDD);
            String drive = Rig.drive(machine);
            machine.run(1);
            Check.same("written back the same", Rig.drive(machine), drive);
        }
        writingEverySector();
    }

    private static void writingEverySector() {
        for (int number = 0; number < 8; number++) {
            SixtyFive machine = Rig.with(0x8E, 0xF2, 0x03, 0x8D, 0xF4, 0x03);
            for (int at = 0; at < 32; at++) {
                machine.load(768 + at, at + 1, 1);
            }
            machine.put(Rig.X, number);
            machine.protect(true);
            machine.run(2);
            for (int sector = 0; sector < 8; sector++) {
                for (int at = 0; at < 32; at++) {
                    Check.equal("sector " + sector + " at " + at, machine.sector(sector, at),
                            sector == number ? at + 1 : 0);
                }
            }
            Check.equal("memory stays", machine.peek(799), 32);
        }
    }

    private static void emptyCells() {
        for (int address = 1008; address < 1024; address++) {
            if (address >= 1010 && address <= 1012) {
                continue;
            }
            SixtyFive machine = Rig.with(0x8D, address % 256, 3, 0xAE, address % 256, 3);
            machine.put(Rig.A, 255);
            machine.put(Rig.X, 9);
            String memory = Rig.memory(machine);
            Check.equal("STA " + address, Rig.step(machine), 0);
            Check.same("nothing is written", Rig.memory(machine), memory);
            machine.run(1);
            Check.equal("READ " + address, machine.get(Rig.X), 0);
            Check.equal("no KEY", machine.get(Rig.KEY), 0);
            Check.equal("no SECTOR", machine.get(Rig.SECTOR), 0);
        }
        int[] commands = {1011, 1012};
        for (int address : commands) {
            SixtyFive machine = on(0xAD, address);
            machine.insert(0, 0, 7, 1);
            machine.load(769, 8, 1);
            machine.put(Rig.A, 9);
            String drive = Rig.drive(machine);
            String memory = Rig.memory(machine);
            machine.run(1);
            Check.equal("READ " + address, machine.get(Rig.A), 0);
            Check.same("a READ moves no sector", Rig.drive(machine) + Rig.memory(machine), drive + memory);
        }
    }

    private static void keyTakenBeforeAFault() {
        // STA WIDE at 1007: b from 1008, h from 1009; KEY 0x8C leads to 0x8C8C, 140; no FAULT there.
        // KEY 0xC3: w is 0xC3C3, modulo 1024 it is 963, PROTECTED.
        SixtyFive machine = new SixtyFive();
        machine.load(1007, 0x8D, 1);
        machine.put(Rig.PC, 1007);
        machine.put(Rig.A, 1);
        machine.protect(true);
        machine.press(0x43);
        Check.equal("a WRITE with FAULT 2", Rig.step(machine), 2);
        Check.equal("the KEY was taken", machine.get(Rig.KEY), 0);
        Check.equal("PC stays", machine.get(Rig.PC), 1007);
        Check.equal("nothing written", machine.peek(963), 0);
    }
}
