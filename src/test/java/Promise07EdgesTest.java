import java.util.Arrays;

/** Promise 7: the sentences on bytes and FLAGS at their boundaries, in numbers; Promise07BytesTest has all bytes. */
public final class Promise07EdgesTest {
    private static final int N = Rig.N_BIT;
    private static final int V = Rig.V_BIT;
    private static final int Z = Rig.Z_BIT;
    private static final int C = Rig.C_BIT;

    public static void main(String[] args) {
        setZ();
        setN();
        patterns();
        sumModulo();
        sumCarry();
        sumOverflow();
        minus();
        compare();
        leftBit();
        leftWithCarry();
        rightBit();
        rightWithCarry();
        fallAndRise();
        registersFallAndRise();
        moves();
        stackRegister();
        nothingAtAll();
        commonBits();
        bitsOfTheOperand();
        flagCodes();
        Check.finish();
    }

    /** Runs the code with b behind it: one register and the FLAGS before, both after. */
    private static void runs(int[] code, int register, int[] before, int[] after) {
        SixtyFive machine = Rig.with(code);
        machine.put(register, before[0]);
        machine.put(Rig.FLAGS, before[1]);
        int[] due = Rig.row(machine);
        machine.run(1);
        due[register] = after[0];
        due[Rig.FLAGS] = after[1] + Rig.ONES;
        due[Rig.PC] = 512 + Opcodes.size(code[0]);
        due[Rig.DONE] = 1;
        Check.same(Opcodes.NAMES[code[0]] + " " + Arrays.toString(code) + " with " + Arrays.toString(before),
                Rig.registers(machine), Rig.text(due));
    }

    private static void runs(int code, int b, int register, int[] before, int[] after) {
        runs(new int[] {code, b}, register, before, after);
    }

    private static int[] to(int value, int flags) {
        return new int[] {value, flags};
    }

    private static void setZ() {
        Check.sentence("Z is 1 if the byte p is 0, else 0");
        int[] codes = {0xA9, 0xA2, 0xA0};
        for (int register = 0; register < 3; register++) {
            runs(codes[register], 0, register, to(9, 0), to(0, Z));
            runs(codes[register], 0, register, to(9, N + V + Z + C), to(0, V + Z + C));
            runs(codes[register], 1, register, to(9, Z), to(1, 0));
            runs(codes[register], 255, register, to(0, Z), to(255, N));
        }
    }

    private static void setN() {
        Check.sentence("N is p / 128");
        int[] codes = {0xA9, 0xA2, 0xA0};
        for (int register = 0; register < 3; register++) {
            runs(codes[register], 127, register, to(0, N + Z), to(127, 0));
            runs(codes[register], 128, register, to(0, Z), to(128, N));
            runs(codes[register], 255, register, to(0, V + C), to(255, N + V + C));
        }
    }

    private static void patterns() {
        Check.sentence("K 0: A or OPERAND; 1: and; 2: exclusive or: A is that, SET A");
        runs(0x09, 0, Rig.A, to(0, N + C), to(0, Z + C));
        runs(0x09, 0x80, Rig.A, to(0x7F, V), to(0xFF, N + V));
        runs(0x09, 0x66, Rig.A, to(0x3C, N + Z), to(0x7E, 0));
        runs(0x09, 0xFF, Rig.A, to(0xFF, Z), to(0xFF, N));
        runs(0x29, 0x80, Rig.A, to(0x7F, N + V + C), to(0, Z + V + C));
        runs(0x29, 0x80, Rig.A, to(0xFF, Z), to(0x80, N));
        runs(0x29, 0x66, Rig.A, to(0x3C, N + Z), to(0x24, 0));
        runs(0x49, 0xFF, Rig.A, to(0xFF, N), to(0, Z));
        runs(0x49, 0xFF, Rig.A, to(0x7F, V + C), to(0x80, N + V + C));
        runs(0x49, 0x66, Rig.A, to(0x3C, N + Z), to(0x5A, 0));
    }

    private static void sumModulo() {
        Check.sentence("All sums of bytes are taken modulo 256.");
        runs(0x69, 1, Rig.A, to(254, 0), to(255, N));
        runs(0x69, 1, Rig.A, to(255, 0), to(0, Z + C));
        runs(0x69, 2, Rig.A, to(255, 0), to(1, C));
        runs(0x69, 255, Rig.A, to(255, 0), to(254, N + C));
        runs(0x69, 255, Rig.A, to(255, C), to(255, N + C));
    }

    private static void sumCarry() {
        Check.sentence("C is 1 if s is above 255, else 0");
        runs(0x69, 0, Rig.A, to(255, 0), to(255, N));
        runs(0x69, 0, Rig.A, to(255, C), to(0, Z + C));
        runs(0x69, 155, Rig.A, to(100, 0), to(255, N));
        runs(0x69, 155, Rig.A, to(100, C), to(0, Z + C));
        runs(0x69, 156, Rig.A, to(100, 0), to(0, Z + C));
        runs(0x69, 0, Rig.A, to(0, C), to(1, 0));
    }

    private static void sumOverflow() {
        Check.sentence("V is 1 if A and OPERAND have one bit 7 and s another, else 0");
        runs(0x69, 0, Rig.A, to(127, V), to(127, 0));
        runs(0x69, 0, Rig.A, to(127, C), to(128, N + V));
        runs(0x69, 1, Rig.A, to(126, V), to(127, 0));
        runs(0x69, 1, Rig.A, to(127, 0), to(128, N + V));
        runs(0x69, 255, Rig.A, to(128, 0), to(127, V + C));
        runs(0x69, 255, Rig.A, to(128, C), to(128, N + C));
        runs(0x69, 255, Rig.A, to(129, V), to(128, N + C));
        runs(0x69, 128, Rig.A, to(128, 0), to(0, V + Z + C));
        runs(0x69, 128, Rig.A, to(127, V + C), to(0, Z + C));
        runs(0x69, 128, Rig.A, to(127, V), to(255, N));
    }

    private static void minus() {
        Check.sentence("7: as 3 with 255 minus OPERAND.");
        runs(0xE9, 0, Rig.A, to(0, C), to(0, Z + C));
        runs(0xE9, 0, Rig.A, to(0, 0), to(255, N));
        runs(0xE9, 1, Rig.A, to(0, C), to(255, N));
        runs(0xE9, 1, Rig.A, to(1, C), to(0, Z + C));
        runs(0xE9, 1, Rig.A, to(1, 0), to(255, N));
        runs(0xE9, 255, Rig.A, to(255, C), to(0, Z + C));
        runs(0xE9, 255, Rig.A, to(255, 0), to(255, N));
        runs(0xE9, 1, Rig.A, to(128, C), to(127, V + C));
        runs(0xE9, 255, Rig.A, to(127, C), to(128, N + V));
        runs(0xE9, 128, Rig.A, to(127, C), to(255, N + V));
        runs(0xE9, 127, Rig.A, to(128, 0), to(0, V + Z + C));
        runs(0xE9, 127, Rig.A, to(127, V + C), to(0, Z + C));
    }

    private static void compare() {
        Check.sentence("C is 1 if A is not below the OPERAND, else 0; SET A minus OPERAND.");
        int[] codes = {0xC9, 0xE0, 0xC0};
        for (int register = 0; register < 3; register++) {
            int code = codes[register];
            runs(code, 100, register, to(99, Z + C), to(99, N));
            runs(code, 100, register, to(100, N), to(100, Z + C));
            runs(code, 100, register, to(101, N + Z), to(101, C));
            runs(code, 0, register, to(0, 0), to(0, Z + C));
            runs(code, 255, register, to(0, C), to(0, 0));
            runs(code, 0, register, to(255, 0), to(255, N + C));
            runs(code, 255, register, to(255, V), to(255, V + Z + C));
            runs(code, 128, register, to(127, V + C), to(127, N + V));
            runs(code, 127, register, to(128, 0), to(128, C));
            runs(code, 1, register, to(129, 0), to(129, N + C));
        }
    }

    /** The change of A, and of the byte at 0x80 by the same K. */
    private static void changes(int code, int flags, int before, int after, int flagsAfter) {
        if (code == 0x0A || code == 0x2A || code == 0x4A || code == 0x6A) {
            runs(new int[] {code}, Rig.A, to(before, flags), to(after, flagsAfter));
        }
        SixtyFive machine = Rig.with(code - 4, 0x80);
        machine.load(0x80, before, 1);
        machine.put(Rig.A, 9);
        machine.put(Rig.FLAGS, flags);
        Check.equal("code " + (code - 4), machine.run(1), 514);
        Check.equal("code " + (code - 4) + " of " + before, machine.peek(0x80), after);
        Check.same("registers and FLAGS", Rig.registers(machine), "9 0 0 255 514 " + (flagsAfter + 48) + " 1 0 0 0");
    }

    private static void leftBit() {
        Check.sentence("0: 2 p, C its bit 7 before");
        changes(0x0A, C, 0, 0, Z);
        changes(0x0A, C, 1, 2, 0);
        changes(0x0A, Z, 63, 126, 0);
        changes(0x0A, V, 64, 128, N + V);
        changes(0x0A, C, 127, 254, N);
        changes(0x0A, N, 128, 0, Z + C);
        changes(0x0A, 0, 255, 254, N + C);
    }

    private static void leftWithCarry() {
        Check.sentence("1: 2 p plus C before, likewise");
        changes(0x2A, 0, 0, 0, Z);
        changes(0x2A, C, 0, 1, 0);
        changes(0x2A, 0, 128, 0, Z + C);
        changes(0x2A, C, 128, 1, C);
        changes(0x2A, C, 127, 255, N);
        changes(0x2A, V, 127, 254, N + V);
        changes(0x2A, C, 255, 255, N + C);
    }

    private static void rightBit() {
        Check.sentence("2: p / 2, C its bit 0 before");
        changes(0x4A, C, 0, 0, Z);
        changes(0x4A, N, 1, 0, Z + C);
        changes(0x4A, C, 2, 1, 0);
        changes(0x4A, N + V, 255, 127, V + C);
        changes(0x4A, C, 128, 64, 0);
        changes(0x4A, C, 254, 127, 0);
    }

    private static void rightWithCarry() {
        Check.sentence("3: p / 2 plus 128 times C before, likewise");
        changes(0x6A, 0, 0, 0, Z);
        changes(0x6A, C, 0, 128, N);
        changes(0x6A, 0, 1, 0, Z + C);
        changes(0x6A, C, 1, 128, N + C);
        changes(0x6A, C, 255, 255, N + C);
        changes(0x6A, N + V, 254, 127, V);
    }

    private static void fallAndRise() {
        Check.sentence("6: p minus 1; 7: p plus 1; SET it (C stays for 6 and 7)");
        for (int c = 0; c <= 1; c++) {
            changes(0xCA, c, 1, 0, Z + c);
            changes(0xCA, Z + c, 0, 255, N + c);
            changes(0xCA, N + c, 128, 127, c);
            changes(0xCA, V + c, 255, 254, N + V + c);
            changes(0xEA, N + c, 255, 0, Z + c);
            changes(0xEA, Z + c, 0, 1, c);
            changes(0xEA, c, 127, 128, N + c);
            changes(0xEA, V + c, 254, 255, N + V + c);
        }
    }

    private static void registersFallAndRise() {
        Check.sentence("136: Y falls by 1; 168: Y is A; 200: Y rises by 1; 232: X rises by 1: SET it.");
        // 202, of which another sentence says "X falls by 1, SET X", goes with them.
        int[][] falling = {{136, Rig.Y}, {202, Rig.X}};
        int[][] rising = {{200, Rig.Y}, {232, Rig.X}};
        for (int c = 0; c <= 1; c++) {
            for (int[] row : falling) {
                runs(row[0], 0, row[1], to(1, N + c), to(0, Z + c));
                runs(row[0], 0, row[1], to(0, Z + c), to(255, N + c));
                runs(row[0], 0, row[1], to(128, N + V + c), to(127, V + c));
            }
            for (int[] row : rising) {
                runs(row[0], 0, row[1], to(254, c), to(255, N + c));
                runs(row[0], 0, row[1], to(255, N + c), to(0, Z + c));
                runs(row[0], 0, row[1], to(0, Z + c), to(1, c));
                runs(row[0], 0, row[1], to(127, V + c), to(128, N + V + c));
            }
        }
    }

    private static void moves() {
        Check.sentence("A is X, SET A");
        // A is X, A is Y, X is A, Y is A: the code, from, to.
        int[][] codes = {{0x8A, Rig.X, Rig.A}, {0x98, Rig.Y, Rig.A}, {0xAA, Rig.A, Rig.X}, {0xA8, Rig.A, Rig.Y}};
        int[][] values = {{0, Z}, {1, 0}, {127, 0}, {128, N}, {255, N}};
        for (int[] code : codes) {
            for (int[] value : values) {
                for (int flags = 0; flags <= 255; flags += 255) {
                    SixtyFive machine = Rig.with(code[0]);
                    machine.put(code[1], value[0]);
                    machine.put(code[2], 77);
                    machine.put(Rig.FLAGS, flags);
                    int[] due = Rig.row(machine);
                    machine.run(1);
                    due[code[2]] = value[0];
                    due[Rig.FLAGS] = Rig.ONES + value[1] + (flags & V + C);
                    due[Rig.PC] = 513;
                    due[Rig.DONE] = 1;
                    Check.same("code " + code[0] + " with " + value[0], Rig.registers(machine), Rig.text(due));
                }
            }
        }
    }

    private static void stackRegister() {
        Check.sentence("K 4, 5, M 6: S is X; X is S, SET X.");
        int[][] values = {{0, Z}, {1, 0}, {127, 0}, {128, N}, {255, N}};
        for (int[] value : values) {
            for (int flags = 0; flags <= 255; flags += 255) {
                SixtyFive toS = Rig.with(0x9A);
                toS.put(Rig.X, value[0]);
                toS.put(Rig.S, 77);
                toS.put(Rig.FLAGS, flags);
                toS.run(1);
                Check.same("S is X, no FLAG moves", Rig.registers(toS), "0 " + value[0] + " 0 " + value[0] + " 513 "
                        + (flags & 195 | 48) + " 1 0 0 0");
                SixtyFive toX = Rig.with(0xBA);
                toX.put(Rig.S, value[0]);
                toX.put(Rig.X, 77);
                toX.put(Rig.FLAGS, flags);
                toX.run(1);
                Check.same("X is S, SET X", Rig.registers(toX), "0 " + value[0] + " 0 " + value[0] + " 513 "
                        + (value[1] + (flags & V + C) + 48) + " 1 0 0 0");
            }
        }
    }

    private static void nothingAtAll() {
        Check.sentence("7, SELF: nothing at all");
        for (int flags = 0; flags <= 255; flags += 85) {
            for (int a = 0; a <= 255; a += 85) {
                runs(new int[] {0xEA}, Rig.A, to(a, flags), to(a, flags & 195));
            }
        }
    }

    /** BIT with this A and this byte at 0x80, by ZERO and by WIDE. */
    private static void bit(int a, int operand, int flags, int flagsAfter) {
        int[][] programs = {{0x24, 0x80, 0}, {0x2C, 0x80, 0}};
        for (int[] program : programs) {
            SixtyFive machine = Rig.with(program);
            machine.load(0x80, operand, 1);
            machine.put(Rig.A, a);
            machine.put(Rig.FLAGS, flags);
            machine.run(1);
            Check.same("BIT of " + a + " and " + operand, Rig.registers(machine),
                    a + " 0 0 255 " + (512 + Opcodes.size(program[0])) + " " + (flagsAfter + 48) + " 1 0 0 0");
        }
    }

    private static void commonBits() {
        Check.sentence("Z is 1 if A and OPERAND have no bit in common, else 0");
        bit(0, 0, 0, Z);
        bit(0x0F, 0x30, C, Z + C);
        bit(0x1F, 0x30, Z, 0);
        bit(1, 1, Z, 0);
        bit(0x55, 0x2A, 0, Z);
        bit(0xFF, 0, N + V, Z);
    }

    private static void bitsOfTheOperand() {
        Check.sentence("N is bit 7, V bit 6 of OPERAND");
        bit(0xFF, 0x3F, N + V, 0);
        bit(0xFF, 0x40, N, V);
        bit(0xFF, 0x7F, N, V);
        bit(0xFF, 0x80, V, N);
        bit(0xFF, 0xBF, V, N);
        bit(0xFF, 0xC0, 0, N + V);
        bit(0, 0xC0, C, N + V + Z + C);
        bit(0xC0, 0x3F, N + V + C, Z + C);
    }

    private static void flagCodes() {
        Check.sentence("24: C is 0; 56: C is 1; 184: V is 0.");
        for (int flags = 0; flags <= 255; flags++) {
            int known = flags & N + V + Z + C;
            runs(new int[] {24}, Rig.A, to(3, flags), to(3, known & ~C));
            runs(new int[] {56}, Rig.A, to(3, flags), to(3, known | C));
            runs(new int[] {184}, Rig.A, to(3, flags), to(3, known & ~V));
        }
    }
}
