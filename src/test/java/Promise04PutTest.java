/** Promise 4: put. */
public final class Promise04PutTest {
    public static void main(String[] args) {
        bytes();
        pc();
        flags();
        wrong();
        Check.finish();
    }

    private static void bytes() {
        int[] first = {0, 0, 0, 255};
        for (int register = 0; register <= 3; register++) {
            SixtyFive machine = new SixtyFive();
            Check.equal("put answers the first value of " + register, machine.put(register, 17), first[register]);
            Check.equal("put answers what it was", machine.put(register, 255), 17);
            Check.equal("put 0", machine.put(register, 0), 255);
            Check.equal("get after put", machine.get(register), 0);
            machine.put(register, 33);
            for (int other = 0; other <= 3; other++) {
                Check.equal("register " + other + " after a put of " + register, machine.get(other),
                        other == register ? 33 : first[other]);
            }
            Check.equal("no flag moves", machine.get(Rig.FLAGS), 48);
        }
    }

    private static void pc() {
        SixtyFive machine = new SixtyFive();
        Check.equal("put(4, 1023)", machine.put(Rig.PC, 1023), 512);
        Check.equal("put(4, 0)", machine.put(Rig.PC, 0), 1023);
        Check.equal("get(4)", machine.get(Rig.PC), 0);
        machine.load(600, 0xA209L, 2);
        Check.equal("put(4, 600)", machine.put(Rig.PC, 600), 0);
        Check.equal("the program goes on there", machine.run(1), 602);
        Check.equal("it ran", machine.get(Rig.X), 9);
    }

    private static void flags() {
        SixtyFive machine = new SixtyFive();
        int before = 48;
        for (int value = 0; value <= 255; value++) {
            Check.equal("put(5, " + value + ")", machine.put(Rig.FLAGS, value), before);
            int due = (value & 0b11000011) | 0b00110000;
            Check.equal("get(5) after put(5, " + value + ")", machine.get(Rig.FLAGS), due);
            before = due;
        }
    }

    private static void wrong() {
        SixtyFive machine = new SixtyFive();
        int[][] pairs = {{-1, 0}, {6, 0}, {7, 0}, {9, 0}, {Integer.MAX_VALUE, 0}, {Integer.MIN_VALUE, 0}, {4, -1},
            {4, 1024}, {5, -1}, {5, 256}, {5, 1023}, {0, Integer.MAX_VALUE}, {0, Integer.MIN_VALUE}};
        for (int[] pair : pairs) {
            Check.refuses("put(" + pair[0] + ", " + pair[1] + ")", machine, () -> machine.put(pair[0], pair[1]));
        }
        for (int register = 0; register <= 3; register++) {
            int which = register;
            Check.refuses("put(" + which + ", 256)", machine, () -> machine.put(which, 256));
            Check.refuses("put(" + which + ", -1)", machine, () -> machine.put(which, -1));
        }
    }
}
