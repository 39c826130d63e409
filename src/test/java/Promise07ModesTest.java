import java.util.List;
import java.util.function.Supplier;

/** Promise 7: the modes and the addresses they lead to, where they wrap around and where they do not. */
public final class Promise07ModesTest {
    private static final int MARK = 0x5A;
    // Above the zero page and the stack, below what the modes lead to here.
    private static final int PROGRAM = 0x2A0;
    /** b, the register added, the address: modulo 256. */
    private static final int[][] ZERO_SUMS = {{0, 0, 0}, {0x33, 9, 0x3C}, {255, 0, 255}, {254, 1, 255}, {255, 1, 0},
        {0xF0, 0x20, 0x10}, {0, 255, 255}, {1, 255, 0}, {255, 255, 254}};
    /** The word, the register added, the address: it goes on over a page, and is taken modulo 1024. */
    private static final int[][] WIDE_SUMS = {{0x334, 9, 0x33D}, {0x334, 0, 0x334}, {0xFF, 1, 0x100},
        {0x2FF, 1, 0x300}, {0x2F0, 0x20, 0x310}, {1006, 1, 1007}, {1023, 1, 0}, {1023, 2, 1}, {1016, 0x20, 24},
        {0x3FF, 255, 254}, {65535, 1, 0}, {65535, 255, 254}};
    /** The modes that lead beyond the zero page. */
    private static final List<String> FAR = List.of("WIDE", "WIDEX", "WIDEY", "INX", "INY");
    private static final List<String> WRITERS =
            List.of("STA", "STX", "STY", "ASL", "ROL", "LSR", "ROR", "INC", "DEC");

    public static void main(String[] args) {
        zero();
        zeroX();
        zeroY();
        words();
        wide();
        wideX();
        wideY();
        inX();
        inY();
        next();
        self();
        protectedByEveryMode();
        keyByEveryMode();
        Check.finish();
    }

    /** A machine with no two bytes alike near one another, and the instruction ready. */
    private static SixtyFive prepared(int code, int b, int h, int x, int y) {
        SixtyFive machine = new SixtyFive();
        Rig.fillMemory(machine, address -> address % 256 ^ address / 256 * 0x55);
        // Pointers: at 0x40 to 0x0310, at 0x50 to 0x03FF, at 0x60 to 0xFF10, at 0xFF and 0 to 0x0320.
        Rig.bytes(machine, 0x40, 0x10, 0x03);
        Rig.bytes(machine, 0x50, 0xFF, 0x03);
        Rig.bytes(machine, 0x60, 0x10, 0xFF);
        Rig.bytes(machine, 0xFF, 0x20);
        Rig.bytes(machine, 0x00, 0x03);
        Rig.bytes(machine, PROGRAM, code, b, h);
        machine.put(Rig.PC, PROGRAM);
        machine.put(Rig.X, x);
        machine.put(Rig.Y, y);
        return machine;
    }

    /** The load READs there and the store WRITES there and nowhere else. */
    private static void leads(String what, int[] codes, int register, int[] bhxy, int due) {
        SixtyFive reading = prepared(codes[0], bhxy[0], bhxy[1], bhxy[2], bhxy[3]);
        reading.load(due, MARK, 1);
        Check.equal(what + " READ without FAULT", Rig.step(reading), 0);
        Check.equal(what + " READ at " + due, reading.get(register), MARK);
        Supplier<SixtyFive> before = () -> {
            SixtyFive machine = prepared(codes[1], bhxy[0], bhxy[1], bhxy[2], bhxy[3]);
            machine.put(register, MARK);
            return machine;
        };
        int[] memory = Rig.memory(before);
        memory[due] = MARK;
        int[] after = Rig.memory(() -> {
            SixtyFive machine = before.get();
            Check.equal(what + " WRITE without FAULT", Rig.step(machine), 0);
            Check.equal(what + " a store leaves the FLAGS", machine.get(Rig.FLAGS), Rig.ONES);
            return machine;
        });
        Check.same(what + " WRITTEN at " + due, Rig.text(after), Rig.text(memory));
    }

    private static void leadsA(String what, int loadCode, int[] bhxy, int due) {
        // In G 1 the store has K 4 where the load has K 5.
        leads(what, new int[] {loadCode, loadCode - 32}, Rig.A, bhxy, due);
    }

    /** INC at E, for the modes of G 2. */
    private static void changes(String what, int code, int[] bhxy, int due) {
        Supplier<SixtyFive> before = () -> {
            SixtyFive machine = prepared(code, bhxy[0], bhxy[1], bhxy[2], bhxy[3]);
            machine.load(due, MARK, 1);
            return machine;
        };
        int[] memory = Rig.memory(before);
        memory[due] = MARK + 1;
        int[] after = Rig.memory(() -> {
            SixtyFive machine = before.get();
            Check.equal(what + " changes without FAULT", Rig.step(machine), 0);
            return machine;
        });
        Check.same(what + " changed at " + due, Rig.text(after), Rig.text(memory));
    }

    private static int[] bhxy(int b, int h, int x, int y) {
        return new int[] {b, h, x, y};
    }

    private static void zero() {
        Check.sentence("ZERO: b.");
        int[] places = {0, 1, 0x33, 254, 255};
        for (int b : places) {
            leadsA("ZERO " + b, 0xA5, bhxy(b, 3, 9, 8), b);
            leads("X at ZERO " + b, new int[] {0xA6, 0x86}, Rig.X, bhxy(b, 3, 9, 8), b);
            leads("Y at ZERO " + b, new int[] {0xA4, 0x84}, Rig.Y, bhxy(b, 3, 9, 8), b);
            changes("INC ZERO " + b, 0xE6, bhxy(b, 3, 9, 8), b);
        }
    }

    private static void zeroX() {
        Check.sentence("ZEROX: b plus X modulo 256");
        for (int[] row : ZERO_SUMS) {
            int[] bhxy = bhxy(row[0], 3, row[1], 7);
            leadsA("ZEROX " + row[0] + " " + row[1], 0xB5, bhxy, row[2]);
            leads("Y at ZEROX", new int[] {0xB4, 0x94}, Rig.Y, bhxy, row[2]);
            changes("INC ZEROX", 0xF6, bhxy, row[2]);
        }
    }

    private static void zeroY() {
        Check.sentence("ZEROY: b plus Y likewise");
        for (int[] row : ZERO_SUMS) {
            int[] bhxy = bhxy(row[0], 3, 7, row[1]);
            leads("X at ZEROY " + row[0] + " " + row[1], new int[] {0xB6, 0x96}, Rig.X, bhxy, row[2]);
        }
    }

    private static void words() {
        Check.sentence("WORD w is b plus 256 h.");
        leadsA("b 255, h 0", 0xAD, bhxy(255, 0, 9, 8), 255);
        leadsA("b 0, h 1", 0xAD, bhxy(0, 1, 9, 8), 256);
        leadsA("b 255, h 1", 0xAD, bhxy(255, 1, 9, 8), 511);
        leadsA("b 0, h 2", 0xAD, bhxy(0, 2, 9, 8), 512);
        leadsA("b 3, h 0", 0xAD, bhxy(3, 0, 9, 8), 3);
    }

    private static void wide() {
        Check.sentence("WIDE: w.");
        // The word, the address: every ADDRESS that is worked out is taken modulo 1024.
        int[][] rows = {{0, 0}, {0x334, 0x334}, {1007, 1007}, {1024, 0}, {1025, 1}, {2031, 1007}, {2048, 0},
            {0xFF34, 0x334}, {0xFFEF, 1007}};
        for (int[] row : rows) {
            int[] bhxy = bhxy(row[0] % 256, row[0] / 256, 9, 8);
            leadsA("WIDE " + row[0], 0xAD, bhxy, row[1]);
            leads("X at WIDE " + row[0], new int[] {0xAE, 0x8E}, Rig.X, bhxy, row[1]);
            leads("Y at WIDE " + row[0], new int[] {0xAC, 0x8C}, Rig.Y, bhxy, row[1]);
            changes("INC WIDE " + row[0], 0xEE, bhxy, row[1]);
        }
    }

    private static void wideX() {
        Check.sentence("WIDEX: w plus X");
        for (int[] row : WIDE_SUMS) {
            int[] bhxy = bhxy(row[0] % 256, row[0] / 256, row[1], 7);
            leadsA("WIDEX " + row[0] + " " + row[1], 0xBD, bhxy, row[2]);
            changes("INC WIDEX " + row[0] + " " + row[1], 0xFE, bhxy, row[2]);
            SixtyFive machine = prepared(0xBC, bhxy[0], bhxy[1], row[1], 7);
            machine.load(row[2], MARK, 1);
            machine.run(1);
            Check.equal("Y at WIDEX " + row[0] + " " + row[1], machine.get(Rig.Y), MARK);
        }
    }

    private static void wideY() {
        Check.sentence("WIDEY: w plus Y");
        for (int[] row : WIDE_SUMS) {
            int[] bhxy = bhxy(row[0] % 256, row[0] / 256, 7, row[1]);
            leadsA("WIDEY " + row[0] + " " + row[1], 0xB9, bhxy, row[2]);
            SixtyFive machine = prepared(0xBE, bhxy[0], bhxy[1], 7, row[1]);
            machine.load(row[2], MARK, 1);
            machine.run(1);
            Check.equal("X at WIDEY " + row[0] + " " + row[1], machine.get(Rig.X), MARK);
        }
    }

    private static void inX() {
        Check.sentence("INX: z is b plus X modulo 256; E is the byte at z plus 256 times that at z plus 1 modulo 256.");
        leadsA("z is b", 0xA1, bhxy(0x40, 3, 0, 8), 0x310);
        leadsA("z is b plus X", 0xA1, bhxy(0x30, 3, 0x10, 8), 0x310);
        leadsA("z around", 0xA1, bhxy(0xC0, 3, 0x80, 8), 0x310);
        leadsA("z is 255: the second byte is at 0", 0xA1, bhxy(0xFF, 3, 0, 8), 0x320);
        leadsA("z is 255 by X", 0xA1, bhxy(0xF0, 3, 0x0F, 8), 0x320);
        leadsA("E modulo 1024", 0xA1, bhxy(0x60, 3, 0, 8), 0x310);
        // z is 0 by X, so that both bytes are at 0 and 1; at 254 and 255 nothing wraps.
        SixtyFive around = prepared(0xA1, 0xFF, 3, 1, 8);
        Rig.bytes(around, 0x00, 0x30, 0x03);
        around.load(0x330, MARK, 1);
        around.run(1);
        Check.equal("z is 0 by X", around.get(Rig.A), MARK);
        SixtyFive last = prepared(0xA1, 0xFE, 3, 0, 8);
        Rig.bytes(last, 0xFE, 0x30, 0x03);
        last.load(0x330, MARK, 1);
        last.run(1);
        Check.equal("z is 254", last.get(Rig.A), MARK);
    }

    private static void inY() {
        Check.sentence("INY: the byte at b plus 256 times that at b plus 1 modulo 256, plus Y.");
        leadsA("Y is 0", 0xB1, bhxy(0x40, 3, 9, 0), 0x310);
        leadsA("plus Y", 0xB1, bhxy(0x40, 3, 9, 8), 0x318);
        leadsA("the last of a page", 0xB1, bhxy(0x40, 3, 9, 0xDF), 0x3EF);
        leadsA("modulo 1024 by Y", 0xB1, bhxy(0x50, 3, 9, 1), 0);
        leadsA("further behind the last", 0xB1, bhxy(0x50, 3, 9, 255), 254);
        leadsA("b is 255: the second byte is at 0", 0xB1, bhxy(0xFF, 3, 9, 5), 0x325);
        leadsA("modulo 1024 by the bytes", 0xB1, bhxy(0x60, 3, 9, 5), 0x315);
        SixtyFive page = prepared(0xB1, 0x70, 3, 9, 2);
        Rig.bytes(page, 0x70, 0xFF, 0x02);
        page.load(0x301, MARK, 1);
        page.run(1);
        Check.equal("over a page", page.get(Rig.A), MARK);
        SixtyFive last = prepared(0xB1, 0xFE, 3, 9, 0);
        Rig.bytes(last, 0xFE, 0x30, 0x03);
        last.load(0x330, MARK, 1);
        last.run(1);
        Check.equal("b is 254", last.get(Rig.A), MARK);
    }

    private static void next() {
        Check.sentence("NEXT: the byte b itself is the OPERAND.");
        int[] codes = {0xA9, 0xA2, 0xA0};
        for (int register = 0; register < 3; register++) {
            for (int value = 0; value <= 255; value++) {
                SixtyFive machine = Rig.with(codes[register], value);
                machine.put(Rig.FLAGS, 0xFF);
                Check.equal("NEXT", machine.run(1), 514);
                Check.equal("register " + register, machine.get(register), value);
                Check.equal("flags", machine.get(Rig.FLAGS),
                        48 + 64 + 1 + (value == 0 ? 2 : 0) + (value >= 128 ? 128 : 0));
            }
        }
    }

    private static void self() {
        Check.sentence("SELF: A is the OPERAND.");
        // ASL, ROL, LSR, ROR of A, and X is A.
        int[][] rows = {{0x0A, 0x84}, {0x2A, 0x85}, {0x4A, 0x21}, {0x6A, 0xA1}};
        for (int[] row : rows) {
            Supplier<SixtyFive> before = () -> {
                SixtyFive machine = prepared(row[0], 3, 3, 9, 8);
                machine.put(Rig.A, 0x42);
                machine.put(Rig.FLAGS, Rig.C_BIT);
                return machine;
            };
            Supplier<SixtyFive> after = () -> {
                SixtyFive machine = before.get();
                Check.equal("code " + row[0], machine.run(1), PROGRAM + 1);
                return machine;
            };
            Check.equal("A", after.get().get(Rig.A), row[1]);
            Check.same("no byte of MEMORY changes", Rig.kept(after), Rig.kept(before));
        }
        SixtyFive machine = prepared(0xAA, 3, 3, 9, 8);
        machine.put(Rig.A, 0x42);
        machine.run(1);
        Check.equal("X is A", machine.get(Rig.X), 0x42);
    }

    /** Leads each mode of a WRITE to 959, 960, 1007 and 1008, modulo 1024 too. */
    private static void protectedByEveryMode() {
        Check.sentence("960 .. 1007 are PROTECTED");
        int[] targets = {959, 960, 1007, 1008, 959 + 1024, 960 + 1024, 1007 + 1024, 1008 + 1024};
        for (int target : targets) {
            int address = target % 1024;
            int due = address == 960 || address == 1007 ? 2 : 0;
            for (int code = 1; code <= 255; code++) {
                if (isWideWrite(code)) {
                    SixtyFive machine = aimed(code, target);
                    machine.protect(true);
                    Check.equal(Opcodes.NAMES[code] + " " + Opcodes.MODES[code] + " at " + target,
                            Rig.step(machine), due);
                    machine.protect(false);
                    machine.put(Rig.PC, PROGRAM);
                    Check.equal("and while not PROTECTED", Rig.step(machine), 0);
                }
            }
        }
    }

    private static boolean isWideWrite(int code) {
        String name = Opcodes.NAMES[code];
        return name != null && WRITERS.contains(name) && FAR.contains(Opcodes.MODES[code]);
    }

    /** A machine at this code, whose mode leads to the number given. */
    private static SixtyFive aimed(int code, int number) {
        String mode = Opcodes.MODES[code];
        int x = 3;
        int y = 5;
        int word = number - (mode.equals("WIDEX") ? x : mode.equals("WIDEY") || mode.equals("INY") ? y : 0);
        SixtyFive machine = new SixtyFive();
        if (mode.equals("INX") || mode.equals("INY")) {
            Rig.bytes(machine, 0x80, word % 256, word / 256);
            Rig.bytes(machine, PROGRAM, code, mode.equals("INX") ? 0x80 - x : 0x80);
        } else {
            Rig.bytes(machine, PROGRAM, code, word % 256, word / 256);
        }
        machine.put(Rig.PC, PROGRAM);
        machine.put(Rig.A, 1);
        machine.put(Rig.X, x);
        machine.put(Rig.Y, y);
        return machine;
    }

    /** Every instruction that READs at E takes the KEY at 1009 and not at 1008, a store at neither. */
    private static void keyByEveryMode() {
        Check.sentence("For others the OPERAND is what is READ at E (only if it is used).");
        for (int code = 1; code <= 255; code++) {
            String mode = Opcodes.MODES[code];
            String name = Opcodes.NAMES[code];
            if (name == null || name.startsWith("J") || !FAR.contains(mode)) {
                continue;
            }
            int[] targets = {1008, 1009, 1010, 1008 + 1024, 1009 + 1024};
            for (int target : targets) {
                SixtyFive machine = aimed(code, target);
                machine.press(3);
                Check.equal(name + " " + mode + " at " + target, Rig.step(machine),
                        name.equals("DEC") && target == 1010 ? 3 : 0);
                boolean taken = target % 1024 == 1009 && !name.startsWith("ST");
                Check.equal(name + " " + mode + " at " + target + ", KEY", machine.get(Rig.KEY), taken ? 0 : 131);
            }
        }
    }
}
