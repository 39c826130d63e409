/** Promise 6: protect, and what PROTECTED means to a WRITE. */
public final class Promise06ProtectTest {
    public static void main(String[] args) {
        answers();
        everyAddress();
        readsAndLoads();
        changesInPlace();
        Check.finish();
    }

    private static int protect(SixtyFive machine, boolean on) {
        return machine.protect(on) ? 1 : 0;
    }

    private static void answers() {
        SixtyFive machine = new SixtyFive();
        Check.equal("false at first", protect(machine, false), 0);
        Check.equal("still false", protect(machine, true), 0);
        Check.equal("true now", protect(machine, true), 1);
        Check.equal("true still", protect(machine, false), 1);
        Check.equal("false again", protect(machine, false), 0);
    }

    private static void everyAddress() {
        for (int address = 900; address < 1024; address++) {
            SixtyFive machine = Rig.with(0x8D, address % 256, address / 256);
            machine.put(Rig.A, 5);
            machine.protect(true);
            boolean refused = address >= 960 && address <= 1007;
            Check.equal("STA " + address + " while PROTECTED", Rig.step(machine), refused ? 2 : 0);
            Check.equal("PC", machine.get(Rig.PC), refused ? 512 : 515);
            Check.equal("latest FAULT", machine.get(Rig.FAULT), refused ? 2 : 0);
            if (address <= 1007) {
                Check.equal("byte " + address, machine.peek(address), refused ? 0 : 5);
            }
            machine.put(Rig.PC, 512);
            machine.protect(false);
            Check.equal("STA " + address + " while not", Rig.step(machine), 0);
            if (address <= 1007) {
                Check.equal("byte " + address, machine.peek(address), 5);
            }
        }
    }

    private static void readsAndLoads() {
        SixtyFive machine = Rig.with(0xAD, 0xC0, 0x03);
        machine.protect(true);
        machine.load(960, 9, 1);
        Check.equal("a READ is free", Rig.step(machine), 0);
        Check.equal("A", machine.get(Rig.A), 9);
    }

    private static void changesInPlace() {
        // ASL, ROL, LSR, ROR, DEC, INC 960: no register and no flag may move at the FAULT.
        int[] codes = {0x0E, 0x2E, 0x4E, 0x6E, 0xCE, 0xEE};
        for (int code : codes) {
            SixtyFive machine = Rig.with(code, 0xC0, 0x03);
            machine.load(960, 0x81, 1);
            for (int flags = 0; flags <= 255; flags += 5) {
                machine.put(Rig.FLAGS, flags);
                machine.protect(true);
                Check.equal("code " + code + " while PROTECTED", Rig.step(machine), 2);
                Check.equal("flags after code " + code, machine.get(Rig.FLAGS), flags & 0xC3 | 48);
                Check.equal("byte after code " + code, machine.peek(960), 0x81);
                Check.equal("PC after code " + code, machine.get(Rig.PC), 512);
                Check.equal("nothing was done", machine.get(Rig.DONE), 0);
            }
        }
    }
}
