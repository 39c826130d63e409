/** Promise 7: branches, jumps, calls and the stack. */
public final class Promise07FlowTest {
    public static void main(String[] args) {
        branches();
        distances();
        jumps();
        calls();
        callsAtTheEdges();
        stack();
        Check.finish();
    }

    private static void branches() {
        int[] bits = {Rig.N_BIT, Rig.V_BIT, Rig.C_BIT, Rig.Z_BIT};
        for (int k = 0; k < 8; k++) {
            for (int flags = 0; flags <= 255; flags++) {
                SixtyFive machine = Rig.with(k * 32 + 16, 20);
                machine.put(Rig.FLAGS, flags);
                boolean taken = ((flags & bits[k / 2]) != 0) == (k % 2 == 1);
                Check.equal("branch " + k + " with flags " + flags, machine.run(1), taken ? 534 : 514);
                Check.equal("flags stay", machine.get(Rig.FLAGS), flags & 0xC3 | 48);
            }
        }
    }

    private static void distances() {
        for (int b = 0; b <= 255; b++) {
            SixtyFive middle = Rig.with(0x90, b);
            int signed = b < 128 ? b : b - 256;
            Check.equal("BCC by " + signed, middle.run(1), 514 + signed);
            SixtyFive low = new SixtyFive();
            Rig.bytes(low, 0, 0x90, b);
            low.put(Rig.PC, 0);
            Check.equal("BCC at 0 by " + signed, low.run(1), Math.floorMod(2 + signed, 1024));
            SixtyFive high = new SixtyFive();
            Rig.bytes(high, 1006, 0x90, b);
            high.put(Rig.PC, 1006);
            Check.equal("BCC at 1006 by " + signed, high.run(1), (1008 + signed) % 1024);
        }
    }

    private static void jumps() {
        int[] words = {0, 1, 255, 256, 767, 1007, 1023, 1024, 1535, 0xFFFF};
        for (int word : words) {
            SixtyFive machine = Rig.with(0x4C, word % 256, word / 256);
            Check.equal("JMP " + word, machine.run(1), word % 1024);
            Check.equal("S stays", machine.get(Rig.S), 255);
        }
    }

    private static void calls() {
        SixtyFive machine = Rig.with(0x20, 0x34, 0x03, 0xEA);
        machine.load(0x334, 0x60, 1);
        Check.equal("JSR", machine.run(1), 0x334);
        Check.equal("S", machine.get(Rig.S), 253);
        Check.equal("the number / 256 first", machine.peek(511), 2);
        Check.equal("then the rest", machine.peek(510), 2);
        Check.equal("RTS", machine.run(1), 515);
        Check.equal("S", machine.get(Rig.S), 255);
        Check.equal("flags stay", machine.get(Rig.FLAGS), 48);
        SixtyFive far = new SixtyFive();
        Rig.bytes(far, 0x2FE, 0x20, 0x00, 0xFF);
        far.put(Rig.PC, 0x2FE);
        Check.equal("JSR over a page, w modulo 1024", far.run(1), 0x300);
        Check.equal("the number / 256 of the last byte", far.peek(511), 3);
        Check.equal("the rest of it", far.peek(510), 0);
    }

    private static void callsAtTheEdges() {
        // The KEY 0xA0 gives b at 1008 and h at 1009: w is 0xA0A0.
        SixtyFive cells = new SixtyFive();
        cells.load(1007, 0x20, 1);
        cells.put(Rig.PC, 1007);
        cells.press(0x20);
        Check.equal("JSR at 1007", cells.run(1), 0xA0A0 % 1024);
        Check.equal("the last byte is at 1009", cells.peek(511) * 256 + cells.peek(510), 1009);
        Check.equal("the KEY was taken", cells.get(Rig.KEY), 0);
        // With S 0 the two bytes go to 256 and 511.
        SixtyFive around = Rig.with(0x20, 0x00, 0x03);
        around.put(Rig.S, 0);
        around.run(1);
        Check.equal("at 256", around.peek(256), 2);
        Check.equal("at 511", around.peek(511), 2);
        Check.equal("S around", around.get(Rig.S), 254);
        // RTS from 1023 leads to 0, and beyond 1023 it is modulo 1024.
        SixtyFive back = Rig.with(0x60);
        back.put(Rig.S, 0x10);
        Rig.bytes(back, 0x111, 0xFF, 0x03);
        Check.equal("RTS to 1024", back.run(1), 0);
        SixtyFive big = Rig.with(0x60);
        big.put(Rig.S, 0xFE);
        big.load(511, 0xFE, 1);
        big.load(256, 0xFF, 1);
        Check.equal("RTS around the stack, modulo 1024", big.run(1), 1023);
        Check.equal("S", big.get(Rig.S), 0);
        // A JSR on the stack writes over itself, but its bytes were READ before.
        SixtyFive self = new SixtyFive();
        Rig.bytes(self, 0x1F0, 0x20, 0x34, 0x02);
        self.put(Rig.PC, 0x1F0);
        self.put(Rig.S, 0xF2);
        Check.equal("JSR over itself", self.run(1), 0x234);
        Check.equal("written over", self.peek(0x1F2), 1);
        Check.equal("written over", self.peek(0x1F1), 0xF2);
    }

    private static void stack() {
        for (int value = 0; value <= 255; value++) {
            SixtyFive machine = Rig.with(0x48, 0x08, 0x28, 0x68);
            machine.put(Rig.A, value);
            machine.put(Rig.FLAGS, 255 - value);
            machine.put(Rig.S, value);
            machine.run(2);
            int second = 256 + (value + 255) % 256;
            Check.equal("PHA", machine.peek(256 + value), value);
            Check.equal("PHP", machine.peek(second), (255 - value) & 0xC3 | 48);
            Check.equal("S falls", machine.get(Rig.S), (value + 254) % 256);
            Check.equal("flags stay", machine.get(Rig.FLAGS), (255 - value) & 0xC3 | 48);
            machine.load(second, value, 1);
            machine.run(1);
            Check.equal("PLP", machine.get(Rig.FLAGS), value & 0xC3 | 48);
            machine.put(Rig.A, 77);
            machine.run(1);
            Check.equal("PLA", machine.get(Rig.A), value);
            Check.equal("PLA sets N and Z", machine.get(Rig.FLAGS),
                    value & 0x41 | 48 | (value & 128) | (value == 0 ? 2 : 0));
            Check.equal("S rises", machine.get(Rig.S), value);
        }
    }
}
