import java.util.function.IntUnaryOperator;

/** A SixtyFive and the model beside it, to which the same is done. */
final class Twin {
    final SixtyFive machine = new SixtyFive();
    final Model model = new Model();

    /** Fills memory and drive, each byte by its address, or by 32 times its sector plus its place. */
    Twin(IntUnaryOperator memoryAt, IntUnaryOperator driveAt) {
        int[] memory = new int[Rig.OPEN];
        for (int address = 0; address < memory.length; address++) {
            memory[address] = memoryAt.applyAsInt(address) & 255;
        }
        bytes(0, memory);
        for (int sector = 0; sector < 8; sector++) {
            for (int at = 0; at < 32; at++) {
                model.drive[sector][at] = driveAt.applyAsInt(sector * 32 + at) & 255;
            }
            Rig.sectorBytes(machine, sector, model.drive[sector]);
        }
    }

    void bytes(int address, int... values) {
        Rig.bytes(machine, address, values);
        System.arraycopy(values, 0, model.memory, address, values.length);
    }

    void put(int register, int value) {
        machine.put(register, value);
        switch (register) {
            case Rig.A:
                model.a = value;
                break;
            case Rig.X:
                model.x = value;
                break;
            case Rig.Y:
                model.y = value;
                break;
            case Rig.S:
                model.s = value;
                break;
            case Rig.PC:
                model.pc = value;
                break;
            default:
                model.setStatus(value);
                break;
        }
    }

    void press(int code) {
        machine.press(code);
        model.key = code;
    }

    void protect(boolean on) {
        machine.protect(on);
        model.guarded = on;
    }

    /** One instruction of both; answers its fault. */
    int step(String what) {
        int due = model.step();
        Check.equal(what, Rig.step(machine), due);
        return due;
    }

    void compareRegisters(String what) {
        Check.same(what, Rig.registers(machine), Rig.text(model.a, model.x, model.y, model.s, model.pc, model.status(),
                model.done, model.keyByte(), model.chosen, model.latest));
    }

    /** Looks at these places, of which the first 1008 are the memory and the others the drive. */
    void comparePlaces(String what, int from, int to) {
        for (int place = from; place < to; place++) {
            if (place < Rig.OPEN) {
                Check.equal(what + ", byte " + place, machine.peek(place), model.memory[place]);
            } else {
                int sector = (place - Rig.OPEN) / 32;
                int at = (place - Rig.OPEN) % 32;
                Check.equal(what + ", sector " + sector + " at " + at, machine.sector(sector, at),
                        model.drive[sector][at]);
            }
        }
    }
}
