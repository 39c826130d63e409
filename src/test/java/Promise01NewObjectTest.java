import java.util.function.Supplier;

/** Promise 1: all as said of a new object. */
public final class Promise01NewObjectTest {
    public static void main(String[] args) {
        memory();
        registers();
        flags();
        nothingElse();
        drive();
        cells();
        notProtected();
        firstInstruction();
        objectsAreApart();
        Check.finish();
    }

    private static void memory() {
        Check.sentence("bytes 0 .. 255 at ADDRESSES 0 .. 1023, all 0 at first");
        Check.same("peek of every address", Rig.text(Rig.memory(SixtyFive::new)), Rig.text(new int[Rig.OPEN]));
    }

    private static void registers() {
        Check.sentence("A, X, Y, S, bytes, 0 at first but S 255; PC, an ADDRESS, 512 at first");
        SixtyFive machine = new SixtyFive();
        Check.equal("A", machine.get(Rig.A), 0);
        Check.equal("X", machine.get(Rig.X), 0);
        Check.equal("Y", machine.get(Rig.Y), 0);
        Check.equal("S", machine.get(Rig.S), 255);
        Check.equal("PC", machine.get(Rig.PC), 512);
    }

    private static void flags() {
        Check.sentence("FLAGS N, V, Z, C, each 0 or 1, 0 at first");
        Check.equal("the flags, of which two bits are always 1", new SixtyFive().get(Rig.FLAGS), Rig.ONES);
        // The branches if N is 1, V is 1, C is 1, Z is 1 all go on to the next instruction.
        SixtyFive machine = Rig.with(0x30, 9, 0x70, 9, 0xB0, 9, 0xF0, 9);
        Check.equal("no flag is 1", machine.run(4), 520);
    }

    private static void nothingElse() {
        Check.sentence("6 how many INSTRUCTIONS were done in all; 7 the KEY, 0 without; 8 the SECTOR's number; "
                + "9 the latest FAULT, 0 without any");
        SixtyFive machine = new SixtyFive();
        Check.equal("none done", machine.get(Rig.DONE), 0);
        Check.equal("no KEY", machine.get(Rig.KEY), 0);
        Check.equal("SECTOR 0", machine.get(Rig.SECTOR), 0);
        Check.equal("no FAULT", machine.get(Rig.FAULT), 0);
    }

    private static void drive() {
        Check.sentence("Byte 0 .. 31 of SECTOR 0 .. 7");
        Check.same("every byte", Rig.text(Rig.drive(SixtyFive::new)), Rig.text(new int[Rig.DRIVE]));
    }

    private static void cells() {
        Check.sentence("1008 .. 1023 are CELLS");
        for (int address = 1008; address <= 1023; address++) {
            SixtyFive machine = Rig.wide(0xAD, address);
            machine.put(Rig.A, 7);
            machine.run(1);
            Check.equal("LDA " + address + " of a new object", machine.get(Rig.A), 0);
        }
        SixtyFive machine = new SixtyFive();
        Check.equal("a KEY can be pressed at once", machine.press(0), 128);
    }

    private static void notProtected() {
        Check.sentence("960 .. 1007 are PROTECTED or not (not at first)");
        Check.equal("protect(true)", new SixtyFive().protect(true) ? 1 : 0, 0);
        Check.equal("protect(false)", new SixtyFive().protect(false) ? 1 : 0, 0);
        int[] addresses = {960, 1007};
        for (int address : addresses) {
            SixtyFive machine = Rig.wide(0x8D, address);
            machine.put(Rig.A, 7);
            Check.equal("STA " + address, Rig.step(machine), 0);
            Check.equal("peek(" + address + ")", machine.peek(address), 7);
        }
    }

    private static void firstInstruction() {
        Check.sentence("CODE 0: FAULT 1");
        Check.faults("run(1) of a new object", SixtyFive::new, 1);
    }

    private static void objectsAreApart() {
        Check.sentence("A new object");
        Supplier<SixtyFive> second = () -> {
            SixtyFive other = new SixtyFive();
            Rig.used();
            return other;
        };
        Check.same("another object stays new", Rig.state(second), Rig.state(SixtyFive::new));
    }
}
