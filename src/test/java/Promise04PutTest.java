/** Promise 4: put. */
public final class Promise04PutTest {
    private static final String[] NAMES = {"A", "X", "Y", "S", "PC", "FLAGS"};

    public static void main(String[] args) {
        numbers();
        bytes();
        pc();
        flagsRange();
        flagsBits();
        answers();
        onlyThat();
        Check.finish();
    }

    private static void numbers() {
        Check.sentence("register 0 A");
        SixtyFive machine = new SixtyFive();
        Check.equal("put(0, 9)", machine.put(0, 9), 0);
        Check.equal("put(5, 0)", machine.put(5, 0), Rig.ONES);
        int[] wrong = {-1, 6, 7, 8, 9, 10, 255, Integer.MAX_VALUE, Integer.MIN_VALUE};
        for (int register : wrong) {
            Check.refuses("put(" + register + ", 0)", m -> m.put(register, 0));
        }
    }

    private static void bytes() {
        Check.sentence("register 0 A, 1 X, 2 Y, 3 S with a byte 0 .. 255");
        for (int register = 0; register <= 3; register++) {
            int which = register;
            SixtyFive machine = new SixtyFive();
            machine.put(register, 0);
            Check.equal(NAMES[register] + " is 0", machine.get(register), 0);
            machine.put(register, 255);
            Check.equal(NAMES[register] + " is 255", machine.get(register), 255);
            int[] wrong = {-1, -128, 256, 512, 1023, Integer.MAX_VALUE, Integer.MIN_VALUE};
            for (int value : wrong) {
                Check.refuses("put(" + register + ", " + value + ")", m -> m.put(which, value));
            }
        }
    }

    private static void pc() {
        Check.sentence("4 PC 0 .. 1023");
        SixtyFive machine = new SixtyFive();
        int[] right = {0, 255, 256, 960, 1007, 1008, 1023};
        for (int value : right) {
            machine.put(Rig.PC, value);
            Check.equal("PC is " + value, machine.get(Rig.PC), value);
        }
        int[] wrong = {-1, 1024, 2047, 65535, Integer.MAX_VALUE, Integer.MIN_VALUE};
        for (int value : wrong) {
            Check.refuses("put(4, " + value + ")", m -> m.put(Rig.PC, value));
        }
        machine.load(600, 0xA209L, 2);
        machine.put(Rig.PC, 600);
        Check.equal("the program goes on there", machine.run(1), 602);
        Check.equal("it ran", machine.get(Rig.X), 9);
    }

    private static void flagsRange() {
        Check.sentence("5 the FLAGS as for CODE 40, 0 .. 255");
        SixtyFive machine = new SixtyFive();
        Check.equal("put(5, 255)", machine.put(Rig.FLAGS, 255), Rig.ONES);
        Check.equal("put(5, 0)", machine.put(Rig.FLAGS, 0), 128 + 64 + 48 + 2 + 1);
        int[] wrong = {-1, 256, 257, 1023, Integer.MAX_VALUE, Integer.MIN_VALUE};
        for (int value : wrong) {
            Check.refuses("put(5, " + value + ")", m -> m.put(Rig.FLAGS, value));
        }
    }

    private static void flagsBits() {
        Check.sentence("N, V, Z, C are its bits 7, 6, 1, 0");
        for (int value = 0; value <= 255; value++) {
            SixtyFive machine = new SixtyFive();
            // From all 0 and from all 1, so that no flag is set or cleared only.
            machine.put(Rig.FLAGS, value % 2 == 0 ? 255 : 0);
            machine.put(Rig.FLAGS, value);
            Check.equal("get(5) after put(5, " + value + ")", machine.get(Rig.FLAGS), value & 0b11000011 | 0b00110000);
            // The same byte pulled by CODE 40.
            SixtyFive pulled = Rig.with(0x28);
            pulled.load(256, value, 1);
            pulled.run(1);
            Check.equal("CODE 40 of " + value, pulled.get(Rig.FLAGS), machine.get(Rig.FLAGS));
        }
    }

    private static void answers() {
        Check.sentence("Answers what it was.");
        int[] first = {0, 0, 0, 255, 512, Rig.ONES};
        int[] second = {17, 18, 19, 20, 1023, 255};
        int[] shown = {17, 18, 19, 20, 1023, 243};
        for (int register = 0; register <= 5; register++) {
            SixtyFive machine = new SixtyFive();
            Check.equal("first put of " + NAMES[register], machine.put(register, second[register]), first[register]);
            Check.equal("next put of " + NAMES[register], machine.put(register, 0), shown[register]);
            Check.equal("last put of " + NAMES[register], machine.put(register, 0), register == 5 ? Rig.ONES : 0);
        }
    }

    private static void onlyThat() {
        Check.sentence("`int put(int register, int value) throws IllegalArgumentException`");
        int[] values = {0, 128, 255, 0, 1000, 66};
        for (int register = 0; register <= 5; register++) {
            SixtyFive machine = Rig.used();
            int[] due = Rig.row(machine);
            machine.put(register, values[register]);
            due[register] = register == 5 ? 66 + Rig.ONES : values[register];
            Check.same("nothing else moves with " + NAMES[register], Rig.registers(machine), Rig.text(due));
        }
    }
}
