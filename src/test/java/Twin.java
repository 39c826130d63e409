import java.util.Random;

/** A SixtyFive and the model beside it, to which the same is done, always the same for one seed. */
final class Twin {
    final SixtyFive machine = new SixtyFive();
    final Model model = new Model();
    private final Random random;

    Twin(long seed) {
        random = new Random(seed);
        int[] memory = new int[Rig.OPEN];
        for (int address = 0; address < memory.length; address++) {
            memory[address] = randomByte();
        }
        bytes(0, memory);
        for (int sector = 0; sector < 8; sector++) {
            for (int at = 0; at < 32; at++) {
                model.drive[sector][at] = random.nextInt(256);
            }
            Rig.sectorBytes(machine, sector, model.drive[sector]);
        }
        put(Rig.A, random.nextInt(256));
        put(Rig.X, random.nextInt(256));
        put(Rig.Y, random.nextInt(256));
        put(Rig.S, random.nextInt(256));
        put(Rig.PC, random.nextInt(4) == 0 ? 1000 + random.nextInt(24) : random.nextInt(1024));
        put(Rig.FLAGS, random.nextInt(256));
    }

    /** Mostly codes of instructions, and now and then a byte that leads to the cells. */
    private int randomByte() {
        if (random.nextInt(6) == 0) {
            return 0xE8 + random.nextInt(16);
        }
        int value = random.nextInt(256);
        for (int i = 0; i < 3 && Opcodes.NAMES[value] == null; i++) {
            value = random.nextInt(256);
        }
        return value;
    }

    private void bytes(int address, int... values) {
        Rig.bytes(machine, address, values);
        System.arraycopy(values, 0, model.memory, address, values.length);
    }

    private void put(int register, int value) {
        machine.put(register, value);
        switch (register) {
            case Rig.A:
                model.a = value;
                break;
            case Rig.X:
                model.x = value;
                break;
            case Rig.Y:
                model.y = value;
                break;
            case Rig.S:
                model.s = value;
                break;
            case Rig.PC:
                model.pc = value;
                break;
            default:
                model.setStatus(value);
                break;
        }
    }

    /** A key, protection, an instruction near the cells, a small A: each now and then. */
    void stir() {
        if (model.key < 0 && random.nextInt(3) == 0) {
            model.key = random.nextInt(128);
            machine.press(model.key);
        }
        if (random.nextInt(3) == 0) {
            model.guarded = random.nextBoolean();
            machine.protect(model.guarded);
        }
        if (random.nextInt(4) == 0 && model.pc <= 1005) {
            bytes(model.pc, randomByte(), 0xC0 + random.nextInt(64), 3 + 4 * random.nextInt(64));
        }
        if (random.nextInt(4) == 0) {
            put(Rig.A, random.nextInt(10));
        }
    }

    /** One instruction of both; behind a code that is none, both go elsewhere. */
    void step(String place) {
        int due = model.step();
        Check.equal(place, Rig.step(machine), due);
        if (due == 1 || due == 4) {
            put(Rig.PC, random.nextInt(1024));
        }
    }

    void compareRegisters(String place) {
        Check.same(place, Rig.registers(machine), Rig.text(model.a, model.x, model.y, model.s, model.pc, model.status(),
                model.done, model.keyByte(), model.chosen, model.latest));
    }

    void compareMemory(String place, int from, int to) {
        for (int address = from; address < to; address++) {
            Check.equal(place + ", byte " + address, machine.peek(address), model.memory[address]);
        }
    }

    void compareDrive(String place, int from, int to) {
        for (int i = from; i < to; i++) {
            Check.equal(place + ", sector " + i / 32 + " at " + i % 32, machine.sector(i / 32, i % 32),
                    model.drive[i / 32][i % 32]);
        }
    }
}
