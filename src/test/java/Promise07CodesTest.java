/** Promise 7: which codes are instructions, how many bytes they have, and which bytes are READ. */
public final class Promise07CodesTest {
    public static void main(String[] args) {
        knownCodes();
        pcBehind();
        bytesBehind();
        codeZero();
        storeNext();
        otherCodes();
        otherCodesReadNothing();
        Check.finish();
    }

    private static boolean isJump(int code) {
        String name = Opcodes.NAMES[code];
        return name.equals("JMP") || name.equals("JMI") || name.equals("JSR") || name.equals("RTS");
    }

    private static void knownCodes() {
        Check.sentence("AN INSTRUCTION is the byte at PC, the CODE");
        int known = 0;
        for (int code = 0; code <= 255; code++) {
            if (Opcodes.NAMES[code] == null) {
                continue;
            }
            known++;
            SixtyFive machine = Rig.with(code, 0, 0);
            Check.equal(Opcodes.NAMES[code] + " (code " + code + ") has no FAULT", Rig.step(machine), 0);
            Check.equal(Opcodes.NAMES[code] + " counts", machine.get(Rig.DONE), 1);
            Check.equal("latest FAULT", machine.get(Rig.FAULT), 0);
        }
        Check.equal("codes that are instructions", known, 145);
    }

    private static void pcBehind() {
        Check.sentence("PC is behind all of them when it is done");
        for (int code = 0; code <= 255; code++) {
            if (Opcodes.NAMES[code] == null || isJump(code)) {
                continue;
            }
            int size = Opcodes.size(code);
            // Branches of 0 lead to the same place whether they are taken or not. Over a page, and up to the CELLS.
            int[] starts = {0, 255, 512, 1007 - size, 1008 - size};
            for (int start : starts) {
                SixtyFive machine = new SixtyFive();
                machine.put(Rig.PC, start);
                machine.load(start, code, 1);
                Check.equal(Opcodes.NAMES[code] + " (code " + code + ") at " + start, machine.run(1), start + size);
                Check.equal("get(4)", machine.get(Rig.PC), start + size);
            }
        }
    }

    private static void bytesBehind() {
        Check.sentence("0, 1 or 2 bytes behind it: b, and h (all READ)");
        // With the code at 1007, byte b is at 1008 and h at 1009, where reading takes the KEY; with the code at 1008
        // it is b that takes it.
        for (int code = 0; code <= 255; code++) {
            if (Opcodes.NAMES[code] == null) {
                continue;
            }
            SixtyFive machine = new SixtyFive();
            machine.load(1007, code, 1);
            machine.put(Rig.PC, 1007);
            machine.put(Rig.S, 0);
            machine.press(0);
            Rig.step(machine);
            Check.equal(Opcodes.NAMES[code] + " (code " + code + ") at 1007, KEY", machine.get(Rig.KEY),
                    Opcodes.size(code) == 3 ? 0 : 128);
            if (code >= 128) {
                SixtyFive cells = new SixtyFive();
                cells.press(code - 128);
                cells.put(Rig.PC, 1008);
                Rig.step(cells);
                Check.equal(Opcodes.NAMES[code] + " (code " + code + ") at 1008, KEY", cells.get(Rig.KEY),
                        Opcodes.size(code) >= 2 ? 0 : code);
            }
        }
    }

    private static void codeZero() {
        Check.sentence("CODE 0: FAULT 1");
        Check.faults("code 0", () -> running(0), 1);
        SixtyFive next = Rig.with(1, 0);
        Check.equal("code 1 is none", Rig.step(next), 0);
        // All CELLS but the first three are code 0, and so are those three at first.
        for (int cell = 1008; cell <= 1023; cell++) {
            int address = cell;
            Check.faults("code 0 in the CELL " + cell, () -> Rig.at(address), 1);
        }
        Check.faults("code 0 behind the KEY at 1009", () -> {
            SixtyFive machine = Rig.at(1010);
            machine.press(0x6A);
            return machine;
        }, 1);
    }

    private static void storeNext() {
        Check.sentence("A is WRITTEN at E; with NEXT it is no INSTRUCTION");
        Check.faults("code 137", () -> running(137), 4);
        Check.equal("code 133", Rig.step(running(133)), 0);
        Check.equal("code 141", Rig.step(running(141)), 0);
    }

    private static void otherCodes() {
        Check.sentence("All other CODES are no INSTRUCTIONS: FAULT 4.");
        for (int code = 1; code <= 255; code++) {
            int which = code;
            if (Opcodes.NAMES[code] == null) {
                Check.faults("code " + code, () -> running(which), 4);
            }
        }
    }

    /** A machine at this code with all FLAGS and a KEY, and with 1009 as the word behind it. */
    private static SixtyFive running(int code) {
        SixtyFive machine = Rig.with(code, 0xF1, 0x03);
        machine.put(Rig.A, 11);
        machine.put(Rig.X, 22);
        machine.put(Rig.Y, 33);
        machine.put(Rig.S, 44);
        machine.put(Rig.FLAGS, code);
        machine.press(9);
        return machine;
    }

    private static void otherCodesReadNothing() {
        Check.sentence("AN INSTRUCTION is the byte at PC, the CODE, and 0, 1 or 2 bytes behind it: b, and h "
                + "(all READ)");
        for (int code = 0; code <= 255; code++) {
            if (Opcodes.NAMES[code] != null) {
                continue;
            }
            int which = code;
            int fault = code == 0 ? 1 : 4;
            // What is no INSTRUCTION has no bytes behind it: with the code at 1007, the KEY at 1009 stays.
            Check.faults("code " + code + " at 1007", () -> {
                SixtyFive machine = Rig.at(1007, which);
                machine.press(5);
                return machine;
            }, fault);
            if (code >= 128) {
                Check.faults("the KEY as code " + code + " at 1008", () -> keyAt(1008, which), 4);
                // There the CODE itself is READ, and a KEY that was taken stays taken.
                Check.faults("the KEY as code " + code + " at 1009", () -> keyAt(1009, which), 4, true);
            }
        }
    }

    private static SixtyFive keyAt(int address, int code) {
        SixtyFive machine = Rig.at(address);
        machine.press(code - 128);
        return machine;
    }
}
