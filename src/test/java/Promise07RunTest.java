/** Promise 7: run itself: its range, its answers, and what stays at a FAULT. */
public final class Promise07RunTest {
    public static void main(String[] args) {
        range();
        faultsAndWhatStays();
        wrapAround();
        instructionsFromCells();
        Check.finish();
    }

    private static void range() {
        SixtyFive machine = new SixtyFive();
        for (int i = 0; i < 64; i++) {
            machine.load(512 + i, 0xE8, 1);
        }
        Check.equal("run(1)", machine.run(1), 513);
        Check.equal("run(20)", machine.run(20), 533);
        Check.equal("X counted them", machine.get(Rig.X), 21);
        int[] numbers = {0, -1, 21, 256, Integer.MAX_VALUE, Integer.MIN_VALUE};
        for (int number : numbers) {
            Check.refuses("run(" + number + ")", machine, () -> machine.run(number));
        }
    }

    private static void faultsAndWhatStays() {
        // LDA 200, STA 16, then the faulty one.
        int[][] faulty = {{0x00}, {0x8D, 0xC0, 0x03}, {0x8D, 0xF2, 0x03}, {0x02}};
        Class<?>[] kinds = {IllegalStateException.class, UnsupportedOperationException.class,
            IndexOutOfBoundsException.class, java.util.NoSuchElementException.class};
        for (int i = 0; i < faulty.length; i++) {
            SixtyFive machine = Rig.with(0xA9, 200, 0x85, 16);
            Rig.bytes(machine, 516, faulty[i]);
            machine.protect(true);
            Check.fails("FAULT " + (i + 1), kinds[i].asSubclass(RuntimeException.class), () -> machine.run(20));
            Check.same("those before stay done", Rig.registers(machine), "200 0 0 255 516 176 2 0 0 " + (i + 1));
            Check.equal("what they wrote, too", machine.peek(16), 200);
            Check.equal("PROTECTED stays untouched", machine.peek(960), 0);
        }
    }

    private static void wrapAround() {
        // BEQ with -2 at 0 and 1 leads back to itself; with -4 it leads to 1022.
        SixtyFive machine = new SixtyFive();
        Rig.bytes(machine, 0, 0xD0, 0xFC);
        machine.put(Rig.PC, 0);
        Check.equal("backwards over 0", machine.run(1), 1022);
        Check.equal("cells are code 0", Rig.step(machine), 1);
        // JMP 1020, NEXT at 1023 behind a code from the cells cannot be: all cells there are 0.
        Rig.bytes(machine, 512, 0x4C, 0xFC, 0xFF);
        machine.put(Rig.PC, 512);
        Check.equal("w modulo 1024", machine.run(1), 1020);
    }

    private static void instructionsFromCells() {
        // KEY 0x29 or 0x80 = 0xA9: LDA NEXT from 1008, whose b is READ at 1009 and takes the KEY.
        SixtyFive machine = new SixtyFive();
        machine.press(0x29);
        machine.put(Rig.PC, 1008);
        Check.equal("LDA at 1008", machine.run(1), 1010);
        Check.equal("A is the KEY", machine.get(Rig.A), 0xA9);
        Check.equal("which is gone", machine.get(Rig.KEY), 0);
        // From 1009 the KEY 0xA9 is the code, and b is the SECTOR's number.
        machine.press(0x29);
        machine.put(Rig.PC, 1009);
        Check.equal("LDA at 1009", machine.run(1), 1011);
        Check.equal("A is the SECTOR's number", machine.get(Rig.A), 0);
        // KEY 0xEA, NOP at 1008, reads no further.
        machine.press(0x6A);
        machine.put(Rig.PC, 1008);
        Check.equal("NOP at 1008", machine.run(1), 1009);
        Check.equal("the KEY stays", machine.get(Rig.KEY), 0xEA);
        Check.equal("NOP at 1009", machine.run(1), 1010);
        Check.equal("now it is taken", machine.get(Rig.KEY), 0);
        Check.equal("the SECTOR's number 0 as a code", Rig.step(machine), 1);
        // KEY 0x8D, STA WIDE at 1009: b is the SECTOR's number 0, h is 0.
        machine.put(Rig.A, 99);
        machine.press(0x0D);
        machine.put(Rig.PC, 1009);
        Check.equal("STA at 1009", machine.run(1), 1012);
        Check.equal("STA 0", machine.peek(0), 99);
        // A sector's number as a code: 5 is ORA ZERO with b 0 from 1011, 6 is ASL ZERO.
        machine.load(512, 0x8DF203L, 3);
        machine.put(Rig.PC, 512);
        machine.put(Rig.A, 5);
        machine.run(1);
        machine.put(Rig.PC, 1010);
        machine.put(Rig.A, 128);
        Check.equal("ORA 0 at 1010", machine.run(1), 1012);
        Check.equal("A", machine.get(Rig.A), 128 | 99);
    }
}
