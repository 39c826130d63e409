import java.util.function.Supplier;

/** Promise 6: protect, and what PROTECTED means to a WRITE. */
public final class Promise06ProtectTest {
    public static void main(String[] args) {
        answers();
        nothingElse();
        onOrNot();
        everyAddress();
        readsAreFree();
        changesInPlace();
        Check.finish();
    }

    private static int protect(SixtyFive machine, boolean on) {
        return machine.protect(on) ? 1 : 0;
    }

    private static void answers() {
        Check.sentence("Answers whether it was.");
        SixtyFive machine = new SixtyFive();
        Check.equal("not at first", protect(machine, false), 0);
        Check.equal("still not", protect(machine, true), 0);
        Check.equal("on now", protect(machine, true), 1);
        Check.equal("on still", protect(machine, false), 1);
        Check.equal("not again", protect(machine, false), 0);
    }

    private static void nothingElse() {
        Check.sentence("`boolean protect(boolean on)`");
        SixtyFive machine = Rig.used();
        String before = Rig.registers(machine);
        machine.protect(false);
        Check.same("off moves no register", Rig.registers(machine), before);
        machine.protect(true);
        Check.same("on moves no register", Rig.registers(machine), before);
        Supplier<SixtyFive> twice = () -> {
            SixtyFive again = Rig.used();
            again.protect(false);
            again.protect(true);
            return again;
        };
        Check.same("no byte changes", Rig.kept(twice), Rig.kept(Rig::used));
    }

    private static void onOrNot() {
        Check.sentence("PROTECTED is on or not.");
        SixtyFive machine = Rig.with(0x8D, 0xC0, 0x03, 0x8E, 0xC0, 0x03);
        machine.put(Rig.A, 5);
        machine.put(Rig.X, 6);
        machine.protect(true);
        Check.equal("on: STA 960", Rig.step(machine), 2);
        machine.protect(false);
        Check.equal("not: STA 960", Rig.step(machine), 0);
        Check.equal("written", machine.peek(960), 5);
        machine.protect(true);
        Check.equal("on again: STX 960", Rig.step(machine), 2);
        Check.equal("what was written before stays", machine.peek(960), 5);
        machine.protect(true);
        Check.equal("on twice is on", Rig.step(machine), 2);
        machine.protect(false);
        Check.equal("and off once is not", Rig.step(machine), 0);
        Check.equal("written", machine.peek(960), 6);
    }

    private static void everyAddress() {
        Check.sentence("960 .. 1007 are PROTECTED or not");
        for (int address = 0; address < 1024; address++) {
            SixtyFive machine = Rig.at(address == 700 ? 600 : 700, 0x8D, address % 256, address / 256);
            int start = machine.get(Rig.PC);
            machine.put(Rig.A, 5);
            machine.protect(true);
            boolean refused = address >= 960 && address <= 1007;
            Check.equal("STA " + address + " while PROTECTED", Rig.step(machine), refused ? 2 : 0);
            Check.equal("PC", machine.get(Rig.PC), refused ? start : start + 3);
            Check.equal("latest FAULT", machine.get(Rig.FAULT), refused ? 2 : 0);
            if (address <= 1007) {
                Check.equal("byte " + address, machine.peek(address), refused ? 0 : 5);
            }
        }
    }

    private static void readsAreFree() {
        Check.sentence("TO WRITE: it is that byte; PROTECTED: FAULT 2");
        int[] addresses = {960, 1007};
        for (int address : addresses) {
            SixtyFive machine = Rig.wide(0xAD, address);
            machine.protect(true);
            machine.load(address, 9, 1);
            Check.equal("a READ of " + address + " is free", Rig.step(machine), 0);
            Check.equal("A", machine.get(Rig.A), 9);
            SixtyFive inside = Rig.at(address, 0xEA);
            inside.protect(true);
            Check.equal("a CODE at " + address + ", too", inside.run(1), address + 1);
        }
    }

    private static void changesInPlace() {
        Check.sentence("REGISTERS, FLAGS and PC are as before it");
        // ASL, ROL, LSR, ROR, DEC, INC 960: no register and no flag may move at the FAULT.
        int[] codes = {0x0E, 0x2E, 0x4E, 0x6E, 0xCE, 0xEE};
        int[] flags = {0, 1, 2, 64, 128, 195};
        for (int code : codes) {
            for (int before : flags) {
                Check.faults("code " + code + " with flags " + before, () -> {
                    SixtyFive machine = Rig.wide(code, 960);
                    machine.load(960, 0x81, 1);
                    machine.put(Rig.FLAGS, before);
                    machine.protect(true);
                    return machine;
                }, 2);
            }
        }
    }
}
