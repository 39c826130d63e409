/** Promise 7: PUSH and PULL, where S wraps around and where it does not. */
public final class Promise07StackTest {
    public static void main(String[] args) {
        push();
        pull();
        everyS();
        pushedFlags();
        pulledFlags();
        pulledA();
        calls();
        callsOverPages();
        comingBack();
        callOverItself();
        openMemory();
        Check.finish();
    }

    private static SixtyFive withS(int s, int... program) {
        SixtyFive machine = Rig.with(program);
        machine.put(Rig.S, s);
        return machine;
    }

    private static void push() {
        Check.sentence("it is WRITTEN at 256 plus S, S falls by 1");
        // S before, the address written, S after.
        int[][] rows = {{255, 511, 254}, {254, 510, 253}, {1, 257, 0}, {0, 256, 255}};
        for (int[] row : rows) {
            SixtyFive machine = withS(row[0], 0x48);
            machine.put(Rig.A, 77);
            Check.equal("CODE 72 with S " + row[0], machine.run(1), 513);
            Check.equal("written at " + row[1], machine.peek(row[1]), 77);
            Check.equal("S after", machine.get(Rig.S), row[2]);
            Check.equal("not at 255", machine.peek(255), 0);
            Check.equal("A stays", machine.get(Rig.A), 77);
        }
        SixtyFive machine = withS(0, 0x48, 0x48);
        machine.put(Rig.A, 77);
        machine.run(1);
        machine.put(Rig.A, 78);
        machine.run(1);
        Check.equal("at 256", machine.peek(256), 77);
        Check.equal("around at 511", machine.peek(511), 78);
    }

    private static void pull() {
        Check.sentence("S rises by 1, the byte at 256 plus S is READ");
        // S before, the address read, S after.
        int[][] rows = {{253, 510, 254}, {254, 511, 255}, {255, 256, 0}, {0, 257, 1}};
        for (int[] row : rows) {
            SixtyFive machine = withS(row[0], 0x68);
            machine.load(row[1], 77, 1);
            Check.equal("CODE 104 with S " + row[0], machine.run(1), 513);
            Check.equal("READ at " + row[1], machine.get(Rig.A), 77);
            Check.equal("S after", machine.get(Rig.S), row[2]);
            Check.equal("the byte stays", machine.peek(row[1]), 77);
        }
        // A new machine's stack is empty: what is pulled is the byte at 256.
        SixtyFive empty = Rig.with(0x68);
        empty.put(Rig.A, 9);
        empty.run(1);
        Check.equal("empty", empty.get(Rig.A), 0);
        Check.equal("S around", empty.get(Rig.S), 0);
    }

    private static void everyS() {
        Check.sentence("S falls by 1");
        for (int s = 0; s <= 255; s++) {
            SixtyFive machine = withS(s, 0x48, 0x08, 0x28, 0x68);
            machine.put(Rig.A, 255 - s);
            machine.put(Rig.FLAGS, s);
            machine.run(2);
            int second = 256 + (s + 255) % 256;
            Check.equal("CODE 72", machine.peek(256 + s), 255 - s);
            Check.equal("CODE 8", machine.peek(second), s & 0xC3 | 48);
            Check.equal("S fell by 2", machine.get(Rig.S), (s + 254) % 256);
            machine.load(second, 255 - s, 1);
            machine.put(Rig.A, 77);
            machine.run(1);
            Check.equal("CODE 40", machine.get(Rig.FLAGS), (255 - s) & 0xC3 | 48);
            machine.run(1);
            Check.equal("CODE 104", machine.get(Rig.A), 255 - s);
            Check.equal("S rose by 2", machine.get(Rig.S), s);
        }
    }

    private static void pushedFlags() {
        Check.sentence("8: N, V, 1, 1, 0, 0, Z, C as bits 7 .. 0 are PUSHED");
        int[][] rows = {{0, 0b00110000}, {Rig.N_BIT, 0b10110000}, {Rig.V_BIT, 0b01110000}, {Rig.Z_BIT, 0b00110010},
            {Rig.C_BIT, 0b00110001}, {255, 0b11110011}};
        for (int[] row : rows) {
            SixtyFive machine = Rig.with(0x08);
            machine.put(Rig.FLAGS, row[0]);
            Check.equal("CODE 8", machine.run(1), 513);
            Check.equal("the byte for " + row[0], machine.peek(511), row[1]);
            Check.equal("the FLAGS stay", machine.get(Rig.FLAGS), row[1]);
        }
    }

    private static void pulledFlags() {
        Check.sentence("40: PULLED: N, V, Z, C are its bits 7, 6, 1, 0");
        for (int value = 0; value <= 255; value++) {
            for (int before = 0; before <= 255; before += 255) {
                SixtyFive machine = withS(254, 0x28);
                machine.load(511, value, 1);
                machine.put(Rig.FLAGS, before);
                machine.run(1);
                Check.same("CODE 40 of " + value, Rig.registers(machine),
                        "0 0 0 255 513 " + (value & 0b11000011 | 0b00110000) + " 1 0 0 0");
            }
        }
    }

    private static void pulledA() {
        Check.sentence("104: A is PULLED, SET A");
        int[][] rows = {{0, 2}, {1, 0}, {127, 0}, {128, 128}, {255, 128}};
        for (int[] row : rows) {
            for (int before = 0; before <= 255; before += 255) {
                SixtyFive machine = withS(254, 0x68);
                machine.load(511, row[0], 1);
                machine.put(Rig.FLAGS, before);
                machine.run(1);
                Check.same("CODE 104 of " + row[0], Rig.registers(machine),
                        row[0] + " 0 0 255 513 " + (row[1] + (before & 65) + 48) + " 1 0 0 0");
            }
        }
    }

    private static void calls() {
        Check.sentence("32: the ADDRESS of the last byte of the INSTRUCTION, its number / 256 and then the rest, "
                + "is PUSHED; PC is w");
        // S before, the address of the number / 256, that of the rest, S after.
        int[][] rows = {{255, 511, 510, 253}, {2, 258, 257, 0}, {1, 257, 256, 255}, {0, 256, 511, 254}};
        for (int[] row : rows) {
            SixtyFive machine = Rig.at(0x2A0, 0x20, 0x34, 0x03);
            machine.put(Rig.S, row[0]);
            machine.put(Rig.X, 9);
            machine.put(Rig.Y, 8);
            Check.equal("CODE 32 with S " + row[0], machine.run(1), 0x334);
            Check.equal("the number / 256", machine.peek(row[1]), 0x02);
            Check.equal("the rest", machine.peek(row[2]), 0xA2);
            Check.equal("S", machine.get(Rig.S), row[3]);
            Check.equal("FLAGS stay", machine.get(Rig.FLAGS), Rig.ONES);
        }
        int[] words = {0, 1007, 1008, 1023, 1024, 1025, 65535};
        for (int word : words) {
            Check.equal("CODE 32 to " + word, Rig.wide(0x20, word).run(1), word % 1024);
        }
    }

    private static void callsOverPages() {
        Check.sentence("the ADDRESS of the last byte of the INSTRUCTION, its number / 256 and then the rest");
        // Where the code stands: the last byte before a page's end, at it, behind it; the first and the last of all.
        int[] places = {0, 0xFD, 0xFE, 0x2FC, 0x2FD, 0x2FE, 0x2FF, 0x300, 1004, 1005};
        for (int place : places) {
            SixtyFive machine = Rig.at(place, 0x20, 0x34, 0x02);
            machine.run(1);
            Check.equal("the number / 256 at " + place, machine.peek(511), (place + 2) / 256);
            Check.equal("the rest at " + place, machine.peek(510), (place + 2) % 256);
        }
        // Its last byte in the CELLS: the KEY 0xA0 gives b at 1008 and h at 1009.
        SixtyFive cells = Rig.at(1007, 0x20);
        cells.press(0x20);
        Check.equal("at 1007", cells.run(1), 0xA0A0 % 1024);
        Check.equal("the last byte is at 1009", cells.peek(511) * 256 + cells.peek(510), 1009);
        Check.equal("where the KEY was taken", cells.get(Rig.KEY), 0);
    }

    private static void comingBack() {
        Check.sentence("96: the rest, then the number / 256, is PULLED; PC is that ADDRESS plus 1");
        // S before, where the rest is, where the number / 256 is, S after.
        int[][] rows = {{253, 510, 511, 255}, {254, 511, 256, 0}, {255, 256, 257, 1}, {0, 257, 258, 2}};
        for (int[] row : rows) {
            SixtyFive machine = withS(row[0], 0x60);
            machine.load(row[1], 0x34, 1);
            machine.load(row[2], 0x03, 1);
            Check.equal("CODE 96 with S " + row[0], machine.run(1), 0x335);
            Check.equal("S", machine.get(Rig.S), row[3]);
            Check.equal("FLAGS stay", machine.get(Rig.FLAGS), Rig.ONES);
        }
        // The number pulled, the PC: over a page, at the end, beyond it.
        int[][] numbers = {{0, 1}, {0x00FF, 0x100}, {0x02FF, 0x300}, {1007, 1008}, {1022, 1023}, {1023, 0}, {1024, 1},
            {2047, 0}, {65534, 1023}, {65535, 0}};
        for (int[] row : numbers) {
            SixtyFive machine = withS(253, 0x60);
            Rig.bytes(machine, 510, row[0] % 256, row[0] / 256);
            Check.equal("CODE 96 of " + row[0], machine.run(1), row[1]);
        }
        SixtyFive both = Rig.with(0x20, 0x00, 0x03, 0xE8);
        both.load(0x300, 0x60, 1);
        Check.equal("there and back", both.run(2), 515);
        Check.equal("with S as before", both.get(Rig.S), 255);
    }

    private static void callOverItself() {
        Check.sentence("0, 1 or 2 bytes behind it: b, and h (all READ)");
        SixtyFive machine = Rig.at(0x1F0, 0x20, 0x34, 0x02);
        machine.put(Rig.S, 0xF2);
        Check.equal("a call whose bytes it pushes over: they were READ before", machine.run(1), 0x234);
        Check.equal("the number / 256", machine.peek(0x1F2), 1);
        Check.equal("the rest", machine.peek(0x1F1), 0xF2);
    }

    private static void openMemory() {
        Check.sentence("960 .. 1007 are PROTECTED");
        int[] codes = {0x48, 0x08, 0x20};
        for (int code : codes) {
            for (int s = 0; s <= 255; s += 85) {
                SixtyFive machine = withS(s, code, 0x00, 0x02);
                machine.protect(true);
                Check.equal("code " + code + ": no PUSH is hindered", Rig.step(machine), 0);
            }
        }
    }
}
