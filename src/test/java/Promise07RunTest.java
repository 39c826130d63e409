import java.util.NoSuchElementException;
import java.util.function.Supplier;

/** Promise 7: run itself: its range, its answers, each FAULT and what stays after it. */
public final class Promise07RunTest {
    private static final String[] KINDS = {"", IllegalStateException.class.getName(),
        UnsupportedOperationException.class.getName(), IndexOutOfBoundsException.class.getName(),
        NoSuchElementException.class.getName()};

    public static void main(String[] args) {
        range();
        exactly();
        kinds();
        thoseBefore();
        faultAtTheEnd();
        nothingOfTheInstruction();
        keyThatWasTaken();
        writtenBefore();
        goingOn();
        answers();
        instructionsFromCells();
        ownBytes();
        Check.finish();
    }

    private static SixtyFive counting() {
        SixtyFive machine = new SixtyFive();
        int[] codes = new int[64];
        java.util.Arrays.fill(codes, 0xE8);
        Rig.bytes(machine, 512, codes);
        return machine;
    }

    private static void range() {
        Check.sentence("n 1 .. 20 INSTRUCTIONS");
        Check.equal("run(1)", counting().run(1), 513);
        Check.equal("run(20)", counting().run(20), 532);
        int[] wrong = {0, -1, -20, 21, 22, 256, Integer.MAX_VALUE, Integer.MIN_VALUE};
        for (int n : wrong) {
            Check.refuses("run(" + n + ")", m -> m.run(n));
            Check.failsWithoutChange("run(" + n + ") with a program", Promise07RunTest::counting,
                    IllegalArgumentException.class, m -> m.run(n));
        }
    }

    private static void exactly() {
        Check.sentence("n 1 .. 20 INSTRUCTIONS");
        for (int n = 1; n <= 20; n++) {
            SixtyFive machine = counting();
            Check.equal("run(" + n + ")", machine.run(n), 512 + n);
            Check.equal("X counted them", machine.get(Rig.X), n);
            Check.equal("get(6) did", machine.get(Rig.DONE), n);
        }
    }

    /** Machines at an instruction with the FAULT of this number. */
    private static Supplier<SixtyFive> faulty(int fault) {
        int[][] programs = {{}, {0x00}, {0x8D, 0xC0, 0x03}, {0x8D, 0xF2, 0x03}, {0x02}};
        return () -> {
            SixtyFive machine = Rig.with(0xA9, 200, 0x85, 16);
            Rig.bytes(machine, 516, programs[fault]);
            machine.protect(true);
            return machine;
        };
    }

    private static String thrownBy(SixtyFive machine, int n) {
        try {
            return "answer " + machine.run(n);
        } catch (RuntimeException e) {
            return e.getClass().getName();
        }
    }

    private static void kinds() {
        Check.sentence("A FAULT: 1 IllegalStateException, 2 UnsupportedOperationException, "
                + "3 IndexOutOfBoundsException, 4 NoSuchElementException");
        for (int fault = 1; fault <= 4; fault++) {
            SixtyFive machine = faulty(fault).get();
            Check.same("FAULT " + fault, thrownBy(machine, 3), KINDS[fault]);
            Check.equal("get(9)", machine.get(Rig.FAULT), fault);
        }
    }

    private static void thoseBefore() {
        Check.sentence("those before stay done");
        int[] counts = {3, 4, 20};
        for (int fault = 1; fault <= 4; fault++) {
            for (int n : counts) {
                SixtyFive machine = faulty(fault).get();
                Check.same("FAULT " + fault + " in run(" + n + ")", thrownBy(machine, n), KINDS[fault]);
                Check.same("registers of those before", Rig.registers(machine), "200 0 0 255 516 176 2 0 0 " + fault);
                Check.equal("what they wrote", machine.peek(16), 200);
                Check.equal("PROTECTED stays untouched", machine.peek(960), 0);
            }
        }
    }

    private static void faultAtTheEnd() {
        Check.sentence("n 1 .. 20 INSTRUCTIONS. A FAULT");
        for (int good = 0; good <= 20; good++) {
            // So many instructions stand before code 0.
            SixtyFive machine = counting();
            machine.load(512 + good, 0, 1);
            Check.same("run(20) with " + good + " good ones", thrownBy(machine, 20),
                    good == 20 ? "answer 532" : KINDS[1]);
            Check.equal("X", machine.get(Rig.X), good);
            Check.equal("done", machine.get(Rig.DONE), good);
            Check.equal("PC", machine.get(Rig.PC), 512 + good);
            Check.equal("latest FAULT", machine.get(Rig.FAULT), good == 20 ? 0 : 1);
        }
    }

    private static void nothingOfTheInstruction() {
        Check.sentence("At a FAULT nothing of the INSTRUCTION is done");
        for (int fault = 1; fault <= 4; fault++) {
            Supplier<SixtyFive> maker = faulty(fault);
            Check.faults("FAULT " + fault, () -> {
                SixtyFive machine = maker.get();
                machine.run(2);
                machine.put(Rig.X, 7);
                machine.put(Rig.Y, 8);
                machine.put(Rig.S, 9);
                machine.put(Rig.FLAGS, 255);
                machine.press(10);
                return machine;
            }, fault);
        }
    }

    private static void keyThatWasTaken() {
        Check.sentence("(but a KEY that was taken, or bytes PUSHED or WRITTEN before, stay)");
        // STA, STX, STY WIDE at 1007: b from 1008, h from 1009; KEY 0xC3: w is 0xC3C3, modulo 1024 it is 963.
        int[] stores = {0x8D, 0x8E, 0x8C, 0x0E, 0x2E, 0x4E, 0x6E, 0xCE, 0xEE};
        for (int code : stores) {
            Check.faults("code " + code + " with the KEY as its word", () -> edge(code, 0x43, true), 2, true);
            SixtyFive open = edge(code, 0x43, false);
            Check.equal("code " + code + " while not PROTECTED", open.run(1), 1010);
            Check.equal("the KEY was taken, too", open.get(Rig.KEY), 0);
        }
        // KEY 0xBF: w is 0xBFBF, which is 959: not PROTECTED.
        Check.equal("at 959", Rig.step(edge(0x8D, 0x3F, true)), 0);
        // KEY 0x81 at 1009 is the CODE 129, STA INX: the KEY was taken by reading the CODE, E is PROTECTED.
        Check.faults("the CODE at 1009 with FAULT 2", () -> {
            SixtyFive machine = Rig.at(1009);
            Rig.bytes(machine, 0, 0xC0, 0x03);
            machine.press(1);
            machine.protect(true);
            return machine;
        }, 2, true);
        // The same with E 1010 and A 8.
        Check.faults("the CODE at 1009 with FAULT 3", () -> {
            SixtyFive machine = Rig.at(1009);
            Rig.bytes(machine, 0, 0xF2, 0x03);
            machine.put(Rig.A, 8);
            machine.press(1);
            return machine;
        }, 3, true);
    }

    private static SixtyFive edge(int code, int key, boolean on) {
        SixtyFive machine = Rig.at(1007, code);
        machine.put(Rig.A, 1);
        machine.put(Rig.FLAGS, 255);
        machine.press(key);
        machine.protect(on);
        return machine;
    }

    private static void writtenBefore() {
        Check.sentence("(but a KEY that was taken, or bytes PUSHED or WRITTEN before, stay)");
        // LDA 1009, PHA, STA 960 while PROTECTED, in one run.
        SixtyFive machine = Rig.with(0xAD, 0xF1, 0x03, 0x48, 0x85, 0x20, 0x8D, 0xC0, 0x03);
        machine.press(9);
        machine.protect(true);
        Check.same("run(20)", thrownBy(machine, 20), KINDS[2]);
        Check.equal("the KEY taken before", machine.get(Rig.KEY), 0);
        Check.equal("the byte PUSHED before", machine.peek(511), 137);
        Check.equal("S with it", machine.get(Rig.S), 254);
        Check.equal("the byte WRITTEN before", machine.peek(32), 137);
        Check.equal("PC at the FAULT", machine.get(Rig.PC), 518);
    }

    private static void goingOn() {
        Check.sentence("REGISTERS, FLAGS and PC are as before it");
        SixtyFive machine = faulty(2).get();
        Check.same("FAULT 2", thrownBy(machine, 20), KINDS[2]);
        Check.same("the same again", thrownBy(machine, 20), KINDS[2]);
        Check.equal("nothing more was done", machine.get(Rig.DONE), 2);
        machine.protect(false);
        Check.equal("without its cause it is done", machine.run(1), 519);
        Check.equal("written", machine.peek(960), 200);
        Check.equal("the latest FAULT stays", machine.get(Rig.FAULT), 2);
    }

    private static void answers() {
        Check.sentence("Answers the PC.");
        Check.equal("behind the last byte", Rig.with(0xA9, 1).run(1), 514);
        Check.equal("where it jumped", Rig.wide(0x4C, 1023).run(1), 1023);
        Check.equal("0 at the lowest", Rig.wide(0x4C, 0).run(1), 0);
        // JMP 512 at 512, for ever the same.
        Check.equal("a loop", Rig.wide(0x4C, 512).run(20), 512);
    }

    private static void instructionsFromCells() {
        Check.sentence("AN INSTRUCTION is the byte at PC, the CODE, and 0, 1 or 2 bytes behind it: b, and h "
                + "(all READ)");
        // KEY 0x29 or 0x80 = 0xA9: LDA NEXT from 1008, whose b is READ at 1009 and takes the KEY.
        SixtyFive machine = Rig.at(1008);
        machine.press(0x29);
        Check.equal("LDA at 1008", machine.run(1), 1010);
        Check.equal("A is the KEY", machine.get(Rig.A), 0xA9);
        Check.equal("which is gone", machine.get(Rig.KEY), 0);
        // From 1009 the KEY 0xA9 is the code, and b is the SECTOR's number.
        machine.press(0x29);
        machine.put(Rig.PC, 1009);
        Check.equal("LDA at 1009", machine.run(1), 1011);
        Check.equal("A is the SECTOR's number", machine.get(Rig.A), 0);
        // KEY 0xEA, NOP at 1008, reads no further.
        machine.press(0x6A);
        machine.put(Rig.PC, 1008);
        Check.equal("NOP at 1008", machine.run(1), 1009);
        Check.equal("the KEY stays", machine.get(Rig.KEY), 0xEA);
        Check.equal("NOP at 1009", machine.run(1), 1010);
        Check.equal("now it is taken", machine.get(Rig.KEY), 0);
        Check.equal("the SECTOR's number 0 as a code", Rig.step(machine), 1);
        // KEY 0x8D, STA WIDE at 1009: b is the SECTOR's number 0, h is 0.
        machine.put(Rig.A, 99);
        machine.press(0x0D);
        machine.put(Rig.PC, 1009);
        Check.equal("STA at 1009", machine.run(1), 1012);
        Check.equal("STA 0", machine.peek(0), 99);
        // A SECTOR's number as a code: 5 is ORA ZERO with b 0 from 1011; 7 is no INSTRUCTION.
        chooseSector(machine, 5);
        machine.put(Rig.A, 128);
        Check.equal("ORA 0 at 1010", machine.run(1), 1012);
        Check.equal("A", machine.get(Rig.A), 128 | 99);
        chooseSector(machine, 7);
        Check.equal("code 7 at 1010", Rig.step(machine), 4);
    }

    private static void chooseSector(SixtyFive machine, int number) {
        machine.load(512, 0x8DF203L, 3);
        machine.put(Rig.PC, 512);
        machine.put(Rig.A, number);
        machine.run(1);
        machine.put(Rig.PC, 1010);
    }

    private static void ownBytes() {
        Check.sentence("those before stay done");
        // INC 515 makes NOP out of code 0xE9 at 515: a program may write what it runs next.
        SixtyFive machine = Rig.with(0xEE, 0x03, 0x02, 0xE9, 0x00);
        Check.equal("INC of the next code", machine.run(2), 516);
        // STA 512 over its own code is done before the next is READ.
        SixtyFive self = Rig.with(0x8D, 0x00, 0x02, 0x4C, 0x00, 0x02);
        self.put(Rig.A, 0xEA);
        Check.equal("STA over itself, JMP 512, NOP", self.run(3), 513);
    }
}
