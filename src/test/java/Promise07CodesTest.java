/** Promise 7: which codes are instructions, how many bytes they have, and which bytes are READ. */
public final class Promise07CodesTest {
    public static void main(String[] args) {
        int known = 0;
        for (int code = 0; code <= 255; code++) {
            if (Opcodes.NAMES[code] != null) {
                known++;
                instruction(code);
            } else {
                noInstruction(code, code == 0 ? 1 : 4);
            }
        }
        Check.equal("codes that are instructions", known, 145);
        Check.finish();
    }

    private static boolean isJump(String name) {
        return name.equals("JMP") || name.equals("JMI") || name.equals("JSR") || name.equals("RTS");
    }

    private static void instruction(int code) {
        String name = Opcodes.NAMES[code];
        // Branches of 0 lead to the same place whether they are taken or not.
        SixtyFive machine = Rig.with(code, 0, 0);
        Check.equal(name + " (code " + code + ") has no FAULT", Rig.step(machine), 0);
        Check.equal(name + " counts", machine.get(Rig.DONE), 1);
        if (!isJump(name)) {
            Check.equal(name + " (code " + code + ") PC", machine.get(Rig.PC), 512 + Opcodes.size(code));
        }
        endsAtTheCells(code, name);
        takesTheKeyOnlyIfRead(code, name);
    }

    private static void endsAtTheCells(int code, String name) {
        if (isJump(name)) {
            return;
        }
        int start = 1008 - Opcodes.size(code);
        SixtyFive machine = new SixtyFive();
        machine.put(Rig.PC, start);
        machine.load(start, code, 1);
        Rig.step(machine);
        Check.equal(name + " PC behind its last byte at 1007", machine.get(Rig.PC), 1008);
    }

    // With the code at 1007, byte b is at 1008 and h at 1009, where reading takes the KEY.
    private static void takesTheKeyOnlyIfRead(int code, String name) {
        SixtyFive machine = new SixtyFive();
        machine.load(1007, code, 1);
        machine.put(Rig.PC, 1007);
        machine.put(Rig.S, 0);
        machine.press(0);
        Rig.step(machine);
        Check.equal(name + " (code " + code + ") at 1007, KEY", machine.get(Rig.KEY),
                Opcodes.size(code) == 3 ? 0 : 128);
    }

    private static void noInstruction(int code, int fault) {
        SixtyFive machine = Rig.with(code, 0xF1, 0x03);
        machine.put(Rig.A, 11);
        machine.put(Rig.X, 22);
        machine.put(Rig.Y, 33);
        machine.put(Rig.S, 44);
        machine.put(Rig.FLAGS, code);
        machine.press(9);
        String memory = Rig.memory(machine);
        Check.equal("code " + code + " is a FAULT", Rig.step(machine), fault);
        Check.same("code " + code + " leaves all", Rig.registers(machine),
                "11 22 33 44 512 " + (code & 0xC3 | 48) + " 0 137 0 " + fault);
        Check.same("code " + code + " leaves the memory", Rig.memory(machine), memory);
        if (code <= 1) {
            return;
        }
        // Behind a code that is no instruction no byte is READ: the KEY at 1009 stays.
        SixtyFive edge = new SixtyFive();
        edge.press(code & 127);
        if (code >= 128) {
            edge.put(Rig.PC, 1008);
            Check.equal("the KEY as code " + code, Rig.step(edge), 4);
            Check.equal("the KEY stays", edge.get(Rig.KEY), code);
            edge.put(Rig.PC, 1009);
            Check.equal("the KEY as code " + code + " at 1009", Rig.step(edge), 4);
            Check.equal("the KEY was taken all the same", edge.get(Rig.KEY), 0);
            Check.equal("PC stays", edge.get(Rig.PC), 1009);
        }
    }
}
