/** Promise 7: branches and jumps. Calls are in Promise07StackTest, CODE 108 in Promise11OrderTest. */
public final class Promise07FlowTest {
    private static final String[] BRANCHES = {"N is 0", "N is 1", "V is 0", "V is 1", "C is 0", "C is 1", "Z is 0",
        "Z is 1"};

    public static void main(String[] args) {
        branches();
        distances();
        aroundTheEnds();
        notTaken();
        branchesReadB();
        jumps();
        Check.finish();
    }

    private static void branches() {
        Check.sentence("M 4, K 0 .. 7: if N is 0, N is 1, V is 0, V is 1, C is 0, C is 1, Z is 0, Z is 1");
        int[] bits = {Rig.N_BIT, Rig.V_BIT, Rig.C_BIT, Rig.Z_BIT};
        for (int k = 0; k < 8; k++) {
            for (int flags = 0; flags <= 255; flags++) {
                SixtyFive machine = Rig.with(k * 32 + 16, 20);
                machine.put(Rig.FLAGS, flags);
                boolean taken = ((flags & bits[k / 2]) != 0) == (k % 2 == 1);
                Check.equal("if " + BRANCHES[k] + " with flags " + flags, machine.run(1), taken ? 534 : 514);
                Check.equal("the flags stay", machine.get(Rig.FLAGS), flags & 0xC3 | 48);
            }
        }
    }

    /** A machine at the branch K with flags by which it is taken, or not. */
    private static SixtyFive branch(int k, int b, int place, boolean taken) {
        SixtyFive machine = Rig.at(place, k * 32 + 16, b);
        machine.put(Rig.FLAGS, taken == (k % 2 == 1) ? 255 : 0);
        return machine;
    }

    private static void distances() {
        Check.sentence("PC moves on by b taken with sign");
        int[][] rows = {{0, 514}, {1, 515}, {126, 640}, {127, 641}, {128, 386}, {129, 387}, {253, 511}, {254, 512},
            {255, 513}};
        for (int k = 0; k < 8; k++) {
            for (int[] row : rows) {
                Check.equal("if " + BRANCHES[k] + ", b " + row[0], branch(k, row[0], 512, true).run(1), row[1]);
            }
        }
        for (int b = 0; b <= 255; b++) {
            Check.equal("b " + b, branch(4, b, 512, true).run(1), 514 + (b < 128 ? b : b - 256));
        }
    }

    private static void aroundTheEnds() {
        Check.sentence("every ADDRESS that is worked out is taken modulo 1024");
        // Where the branch is, b, the PC after it: below 0, and behind 1023.
        int[][] rows = {{0, 254, 0}, {0, 253, 1023}, {0, 252, 1022}, {0, 128, 898}, {126, 128, 0}, {125, 128, 1023},
            {1006, 0, 1008}, {1006, 15, 1023}, {1006, 16, 0}, {1006, 17, 1}, {1006, 127, 111}, {894, 127, 1023},
            {895, 127, 0}, {254, 0, 256}, {254, 255, 255}};
        for (int k = 0; k < 8; k++) {
            for (int[] row : rows) {
                Check.equal("at " + row[0] + ", b " + row[1], branch(k, row[1], row[0], true).run(1), row[2]);
                Check.equal("not taken at " + row[0], branch(k, row[1], row[0], false).run(1), row[0] + 2);
            }
        }
    }

    private static void notTaken() {
        Check.sentence("PC is behind all of them when it is done");
        for (int k = 0; k < 8; k++) {
            for (int b = 0; b <= 255; b += 51) {
                SixtyFive machine = branch(k, b, 512, false);
                int[] due = Rig.row(machine);
                machine.run(1);
                due[Rig.PC] = 514;
                due[Rig.DONE] = 1;
                Check.same("not if " + BRANCHES[k], Rig.registers(machine), Rig.text(due));
            }
        }
    }

    private static void branchesReadB() {
        Check.sentence("0, 1 or 2 bytes behind it: b, and h (all READ)");
        // The KEY as a branch at 1008, K 4 .. 7, has b at 1009.
        for (int k = 4; k < 8; k++) {
            for (int taken = 0; taken <= 1; taken++) {
                int code = k * 32 + 16;
                SixtyFive machine = Rig.at(1008);
                machine.press(code - 128);
                machine.put(Rig.FLAGS, (taken == 1) == (k % 2 == 1) ? 255 : 0);
                int due = taken == 1 ? 1010 + code - 256 : 1010;
                Check.equal("if " + BRANCHES[k] + " at 1008", machine.run(1), due);
                Check.equal("b was READ, taken or not", machine.get(Rig.KEY), 0);
            }
        }
    }

    private static void jumps() {
        Check.sentence("K 2, M 3: PC is w.");
        int[] words = {0, 1, 255, 256, 767, 1007, 1008, 1022, 1023, 1024, 1025, 1535, 2047, 2048, 65534, 65535};
        for (int word : words) {
            SixtyFive machine = Rig.wide(0x4C, word);
            machine.put(Rig.X, 9);
            machine.put(Rig.Y, 8);
            Check.equal("JMP " + word, machine.run(1), word % 1024);
            Check.same("nothing else moves", Rig.registers(machine), "0 9 8 255 " + word % 1024 + " 48 1 0 0 0");
        }
        SixtyFive edge = Rig.at(1007, 0x4C);
        edge.press(1);
        Check.equal("w from the CELLS: the KEY twice", edge.run(1), 0x8181 % 1024);
        Check.equal("it was taken at 1009", edge.get(Rig.KEY), 0);
    }
}
