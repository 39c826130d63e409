import java.util.NoSuchElementException;

/** Promise 9: get. */
public final class Promise09GetTest {
    public static void main(String[] args) {
        range();
        before();
        registers();
        flags();
        counts();
        key();
        sectorNumber();
        latestFault();
        onlyFaults();
        changesNothing();
        Check.finish();
    }

    private static void range() {
        Check.sentence("`int get(int what) throws IllegalArgumentException`");
        Check.equal("get(0)", Rig.used().get(0), 101);
        Check.equal("get(9)", Rig.used().get(9), 4);
        int[] wrong = {-1, -10, 10, 11, 255, Integer.MAX_VALUE, Integer.MIN_VALUE};
        for (int what : wrong) {
            Check.refuses("get(" + what + ")", m -> m.get(what));
        }
    }

    private static void before() {
        Check.sentence("All as said.");
        Check.same("before anything", Rig.registers(new SixtyFive()), "0 0 0 255 512 48 0 0 0 0");
    }

    private static void registers() {
        Check.sentence("A REGISTER as for put");
        SixtyFive machine = new SixtyFive();
        int[][] rows = {{1, 2, 3, 4, 700}, {255, 255, 255, 255, 1023}, {0, 0, 0, 0, 0}, {128, 127, 1, 254, 1008}};
        for (int[] row : rows) {
            for (int register = 0; register < row.length; register++) {
                machine.put(register, row[register]);
            }
            Check.same("after the puts", Rig.registers(machine), Rig.text(row) + " 48 0 0 0 0");
        }
    }

    private static void flags() {
        Check.sentence("5: as CODE 8 pushes it");
        for (int value = 0; value <= 255; value++) {
            SixtyFive machine = Rig.with(0x08);
            machine.put(Rig.FLAGS, value);
            int due = value & 0b11000011 | 0b00110000;
            Check.equal("get(5) of " + value, machine.get(Rig.FLAGS), due);
            machine.run(1);
            Check.equal("CODE 8 of " + value, machine.peek(511), due);
        }
    }

    private static void counts() {
        Check.sentence("6 how many INSTRUCTIONS were done in all");
        // NOP, INX, then no INSTRUCTION.
        SixtyFive machine = Rig.with(0xEA, 0xE8, 0x03);
        machine.run(1);
        Check.equal("one done", machine.get(Rig.DONE), 1);
        machine.put(Rig.PC, 512);
        Check.fails("run(20) until the FAULT", NoSuchElementException.class, () -> machine.run(20));
        Check.equal("the two before it count, it does not", machine.get(Rig.DONE), 3);
        Check.equal("a FAULT alone", Rig.step(machine), 4);
        Check.equal("counts nothing", machine.get(Rig.DONE), 3);
        Check.fails("run(0)", IllegalArgumentException.class, () -> machine.run(0));
        Check.fails("run(21)", IllegalArgumentException.class, () -> machine.run(21));
        Check.equal("nor does a wrong call", machine.get(Rig.DONE), 3);
        // JMP to itself, with as many runs as one object may have.
        SixtyFive busy = Rig.with(0x4C, 0x00, 0x02);
        for (int i = 1; i <= 500; i++) {
            busy.run(20);
        }
        Check.equal("no limit below 10000", busy.get(Rig.DONE), 10000);
    }

    private static void key() {
        Check.sentence("7 the KEY, 0 without");
        SixtyFive machine = Rig.with(0xAD, 0xF1, 0x03);
        Check.equal("without", machine.get(Rig.KEY), 0);
        machine.press(0);
        Check.equal("KEY 0", machine.get(Rig.KEY), 128);
        Check.equal("get takes nothing", machine.get(Rig.KEY), 128);
        machine.run(1);
        Check.equal("taken by a READ of 1009", machine.get(Rig.KEY), 0);
        machine.press(127);
        Check.equal("KEY 127", machine.get(Rig.KEY), 255);
    }

    private static void sectorNumber() {
        Check.sentence("8 the SECTOR's number");
        // STA 1010
        SixtyFive machine = Rig.with(0x8D, 0xF2, 0x03);
        Check.equal("at first", machine.get(Rig.SECTOR), 0);
        int[] numbers = {7, 0, 1, 6};
        for (int number : numbers) {
            machine.put(Rig.PC, 512);
            machine.put(Rig.A, number);
            machine.run(1);
            Check.equal("chosen", machine.get(Rig.SECTOR), number);
        }
        machine.put(Rig.PC, 512);
        machine.put(Rig.A, 8);
        Check.equal("8 is a FAULT", Rig.step(machine), 3);
        Check.equal("the number stays", machine.get(Rig.SECTOR), 6);
    }

    private static void latestFault() {
        Check.sentence("9 the latest FAULT, 0 without any");
        // Code 3 is no INSTRUCTION, STA 960, STA 1010, code 0, NOP.
        SixtyFive machine = Rig.with(0x03, 0x8D, 0xC0, 0x03, 0x8D, 0xF2, 0x03, 0x00, 0xEA);
        machine.protect(true);
        machine.put(Rig.A, 200);
        machine.put(Rig.PC, 520);
        machine.run(1);
        Check.equal("0 without any", machine.get(Rig.FAULT), 0);
        int[] places = {512, 513, 516, 519, 512};
        int[] faults = {4, 2, 3, 1, 4};
        for (int i = 0; i < places.length; i++) {
            machine.put(Rig.PC, places[i]);
            Check.equal("FAULT at " + places[i], Rig.step(machine), faults[i]);
            Check.equal("get(9)", machine.get(Rig.FAULT), faults[i]);
            Check.equal("get(9) again", machine.get(Rig.FAULT), faults[i]);
            machine.put(Rig.PC, 520);
            machine.run(1);
            Check.equal("it stays the latest after a good run", machine.get(Rig.FAULT), faults[i]);
        }
    }

    private static void onlyFaults() {
        Check.sentence("9 the latest FAULT");
        SixtyFive machine = new SixtyFive();
        machine.press(1);
        Check.fails("press(2)", IllegalStateException.class, () -> machine.press(2));
        Check.fails("load(1008, 0, 1)", IllegalArgumentException.class, () -> machine.load(1008, 0, 1));
        Check.fails("run(0)", IllegalArgumentException.class, () -> machine.run(0));
        Check.equal("what other calls throw is no FAULT", machine.get(Rig.FAULT), 0);
        Check.equal("code 0", Rig.step(machine), 1);
        Check.fails("run(21)", IllegalArgumentException.class, () -> machine.run(21));
        Check.equal("nor does it end one", machine.get(Rig.FAULT), 1);
    }

    private static void changesNothing() {
        Check.sentence("`int get(int what) throws IllegalArgumentException`");
        int[] due = {101, 102, 103, 104, 515, 128 + 48 + 1, 1, 128 + 77, 6, 4};
        for (int what = 0; what <= 9; what++) {
            int which = what;
            Check.answersWithoutChange("get(" + what + ")", Rig::used, due[what], m -> m.get(which));
        }
    }
}
