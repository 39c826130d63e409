/** Promise 1: all as said of a new object. */
public final class Promise01NewObjectTest {
    public static void main(String[] args) {
        SixtyFive machine = new SixtyFive();
        Check.same("registers, flags and the rest", Rig.registers(machine), "0 0 0 255 512 48 0 0 0 0");
        for (int address = 0; address <= 1007; address++) {
            Check.equal("peek(" + address + ")", machine.peek(address), 0);
        }
        for (int sector = 0; sector < 8; sector++) {
            for (int at = 0; at < 32; at++) {
                Check.equal("sector(" + sector + ", " + at + ")", machine.sector(sector, at), 0);
            }
        }
        Check.equal("protect(false)", machine.protect(false) ? 1 : 0, 0);
        Check.equal("first instruction is at 512, code 0", Rig.step(machine), 1);
        objectsAreApart();
        Check.finish();
    }

    private static void objectsAreApart() {
        SixtyFive one = new SixtyFive();
        SixtyFive other = new SixtyFive();
        String before = Rig.state(other);
        one.load(512, 0xA907L, 2);
        one.insert(3, 0, 9, 1);
        one.put(Rig.X, 4);
        one.press(1);
        one.protect(true);
        one.run(1);
        Check.same("another object stays new", Rig.state(other), before);
    }
}
