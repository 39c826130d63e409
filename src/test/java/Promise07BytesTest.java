/** Promise 7: sums, comparisons, bit patterns and changes in place, over all bytes. */
public final class Promise07BytesTest {
    // An object is good for 512 calls, and each use makes up to nine.
    private static final int USES = 50;
    private static SixtyFive machine;
    private static int used = USES;

    public static void main(String[] args) {
        for (int a = 0; a <= 255; a++) {
            for (int p = 0; p <= 255; p++) {
                for (int c = 0; c <= 1; c++) {
                    sums(a, p, c);
                }
                patterns(a, p);
                comparisons(a, p);
                bits(a, p);
            }
        }
        for (int p = 0; p <= 255; p++) {
            for (int c = 0; c <= 1; c++) {
                changes(p, c);
            }
            moves(p);
        }
        Check.finish();
    }

    /** Makes ready to run code with b behind it. */
    private static void step(int code, int b, int register, int value, int flags) {
        if (used == USES) {
            machine = new SixtyFive();
            used = 0;
        }
        used++;
        machine.load(512, code * 256 + b, 2);
        machine.put(Rig.PC, 512);
        machine.put(register, value);
        machine.put(Rig.FLAGS, flags);
    }

    private static int nz(int p) {
        return (p >= 128 ? 128 : 0) + (p == 0 ? 2 : 0);
    }

    private static void ends(String what, int register, int value, int flags) {
        machine.run(1);
        Check.equal(what, machine.get(register), value);
        Check.equal(what + " flags", machine.get(Rig.FLAGS), flags + 48);
    }

    private static int signed(int p) {
        return p < 128 ? p : p - 256;
    }

    private static void sums(int a, int p, int c) {
        int sum = a + p + c;
        int real = signed(a) + signed(p) + c;
        int v = real < -128 || real > 127 ? 64 : 0;
        step(0x69, p, Rig.A, a, 0xC2 + c);
        ends("ADC " + a + " " + p + " " + c, Rig.A, sum % 256, nz(sum % 256) + v + sum / 256);
        int rest = a - p - (1 - c);
        int realRest = signed(a) - signed(p) - (1 - c);
        int w = realRest < -128 || realRest > 127 ? 64 : 0;
        step(0xE9, p, Rig.A, a, c);
        ends("SBC " + a + " " + p + " " + c, Rig.A, Math.floorMod(rest, 256),
                nz(Math.floorMod(rest, 256)) + w + (rest >= 0 ? 1 : 0));
    }

    private static void patterns(int a, int p) {
        step(0x09, p, Rig.A, a, 0x41);
        ends("ORA " + a + " " + p, Rig.A, a | p, nz(a | p) + 0x41);
        step(0x29, p, Rig.A, a, 0xC3);
        ends("AND " + a + " " + p, Rig.A, a & p, nz(a & p) + 0x41);
        step(0x49, p, Rig.A, a, 0);
        ends("EOR " + a + " " + p, Rig.A, a ^ p, nz(a ^ p));
    }

    private static void comparisons(int a, int p) {
        int[] codes = {0xC9, 0xE0, 0xC0};
        for (int register = 0; register < 3; register++) {
            int flags = (a + register) % 2 == 0 ? 0xC3 : 0;
            step(codes[register], p, register, a, flags);
            ends("COMPARE " + register + " " + a + " " + p, register, a,
                    nz((a - p) & 255) + (flags & 64) + (a >= p ? 1 : 0));
        }
    }

    private static void bits(int a, int p) {
        step(0x24, 0x80, Rig.A, a, 1);
        machine.load(0x80, p, 1);
        ends("BIT " + a + " " + p, Rig.A, a, (p & 0xC0) + ((a & p) == 0 ? 2 : 0) + 1);
    }

    private static void changes(int p, int c) {
        int[] self = {0x0A, 0x2A, 0x4A, 0x6A};
        int[] zero = {0x06, 0x26, 0x46, 0x66, 0xC6, 0xE6};
        int[] due = {p * 2 % 256, (p * 2 + c) % 256, p / 2, p / 2 + 128 * c, (p + 255) % 256, (p + 1) % 256};
        int[] carry = {p / 128, p / 128, p % 2, p % 2, c, c};
        for (int i = 0; i < 4; i++) {
            step(self[i], 0, Rig.A, p, 0xC2 + c);
            ends("code " + self[i] + " of " + p, Rig.A, due[i], nz(due[i]) + 64 + carry[i]);
            Check.equal("PC", machine.get(Rig.PC), 513);
        }
        for (int i = 0; i < 6; i++) {
            step(zero[i], 0x80, Rig.A, 7, c);
            machine.load(0x80, p, 1);
            ends("code " + zero[i] + " leaves A", Rig.A, 7, nz(due[i]) + carry[i]);
            Check.equal("code " + zero[i] + " of " + p, machine.peek(0x80), due[i]);
        }
    }

    private static void moves(int p) {
        // Code, the register it takes from, the register it goes to.
        int[][] moves = {{0x8A, Rig.X, Rig.A}, {0xAA, Rig.A, Rig.X}, {0xA8, Rig.A, Rig.Y}, {0x98, Rig.Y, Rig.A},
            {0xBA, Rig.S, Rig.X}};
        for (int[] move : moves) {
            step(move[0], 0, move[1], p, 0xC3);
            machine.put(move[2], 255 - p);
            ends("code " + move[0], move[2], p, nz(p) + 0x41);
            Check.equal("its source stays", machine.get(move[1]), p);
        }
        int[] flags = {0, 0xC3};
        for (int before : flags) {
            step(0x9A, 0, Rig.X, p, before);
            machine.put(Rig.S, 255 - p);
            ends("TXS", Rig.S, p, before);
        }
        // Code, its register, by how much it moves.
        int[][] steps = {{0xCA, Rig.X, 255}, {0xE8, Rig.X, 1}, {0x88, Rig.Y, 255}, {0xC8, Rig.Y, 1}};
        for (int[] one : steps) {
            step(one[0], 0, one[1], p, 0x41);
            int due = (p + one[2]) % 256;
            ends("code " + one[0], one[1], due, nz(due) + 0x41);
        }
        step(0xEA, 0, Rig.A, p, p);
        ends("NOP", Rig.A, p, p & 0xC3);
        step(0x18, 0, Rig.A, p, p);
        ends("CLC", Rig.A, p, p & 0xC2);
        step(0x38, 0, Rig.A, p, p);
        ends("SEC", Rig.A, p, p & 0xC2 | 1);
        step(0xB8, 0, Rig.A, p, p);
        ends("CLV", Rig.A, p, p & 0x83);
    }
}
