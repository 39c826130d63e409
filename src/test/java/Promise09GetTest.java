/** Promise 9: get. */
public final class Promise09GetTest {
    public static void main(String[] args) {
        registers();
        counts();
        keyAndSector();
        latestFault();
        wrong();
        Check.finish();
    }

    private static void registers() {
        SixtyFive machine = new SixtyFive();
        machine.put(Rig.A, 1);
        machine.put(Rig.X, 2);
        machine.put(Rig.Y, 3);
        machine.put(Rig.S, 4);
        machine.put(Rig.PC, 700);
        machine.put(Rig.FLAGS, 0x42);
        Check.same("all of get", Rig.registers(machine), "1 2 3 4 700 114 0 0 0 0");
        Check.same("get changes nothing", Rig.registers(machine), "1 2 3 4 700 114 0 0 0 0");
    }

    private static void counts() {
        // NOP, INX, then no INSTRUCTION.
        SixtyFive machine = Rig.with(0xEA, 0xE8, 0x03);
        machine.run(1);
        Check.equal("one done", machine.get(Rig.DONE), 1);
        machine.put(Rig.PC, 512);
        Check.fails("run(20) until the FAULT", java.util.NoSuchElementException.class, () -> machine.run(20));
        Check.equal("the two before it count, it does not", machine.get(Rig.DONE), 3);
        Check.equal("a FAULT alone", Rig.step(machine), 4);
        Check.equal("counts nothing", machine.get(Rig.DONE), 3);
        Check.fails("run(0)", IllegalArgumentException.class, () -> machine.run(0));
        Check.equal("nor does a wrong call", machine.get(Rig.DONE), 3);
    }

    private static void keyAndSector() {
        // STA 1010
        SixtyFive machine = Rig.with(0x8D, 0xF2, 0x03);
        machine.put(Rig.A, 6);
        machine.press(127);
        machine.run(1);
        Check.equal("the KEY", machine.get(Rig.KEY), 255);
        Check.equal("the KEY again", machine.get(Rig.KEY), 255);
        Check.equal("the SECTOR's number", machine.get(Rig.SECTOR), 6);
    }

    private static void latestFault() {
        // Code 3 is no INSTRUCTION, STA 960, STA 1010, code 0, NOP.
        SixtyFive machine = Rig.with(0x03, 0x8D, 0xC0, 0x03, 0x8D, 0xF2, 0x03, 0x00, 0xEA);
        machine.protect(true);
        machine.put(Rig.A, 200);
        int[] places = {512, 513, 516, 519};
        int[] faults = {4, 2, 3, 1};
        for (int i = 0; i < places.length; i++) {
            machine.put(Rig.PC, places[i]);
            Check.equal("FAULT at " + places[i], Rig.step(machine), faults[i]);
            Check.equal("get(9)", machine.get(Rig.FAULT), faults[i]);
        }
        machine.put(Rig.PC, 520);
        machine.run(1);
        Check.equal("it stays the latest after a good run", machine.get(Rig.FAULT), 1);
    }

    private static void wrong() {
        SixtyFive machine = new SixtyFive();
        int[] numbers = {-1, 10, 11, 255, Integer.MAX_VALUE, Integer.MIN_VALUE};
        for (int number : numbers) {
            Check.refuses("get(" + number + ")", machine, () -> machine.get(number));
        }
    }
}
