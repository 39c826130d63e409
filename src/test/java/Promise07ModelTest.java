import java.util.Random;

/** Promise 7: random programs, always the same ones, on SixtyFive and on the model beside it. */
public final class Promise07ModelTest {
    private static final int MACHINES = 6000;
    private static final int STEPS = 20;

    private static final Random RANDOM = new Random(6502);

    public static void main(String[] args) {
        for (int i = 0; i < MACHINES; i++) {
            pair(i);
        }
        Check.finish();
    }

    private static void pair(int number) {
        SixtyFive machine = new SixtyFive();
        Model model = new Model();
        fill(machine, model);
        for (int i = 0; i < STEPS; i++) {
            stir(machine, model);
            String place = "machine " + number + ", step " + i + ", PC " + model.pc;
            int due = model.step();
            Check.equal(place, Rig.step(machine), due);
            Check.same(place, Rig.registers(machine), registers(model));
            if (due == 1 || due == 4) {
                int pc = RANDOM.nextInt(1024);
                machine.put(Rig.PC, pc);
                model.pc = pc;
            }
        }
        Check.same("machine " + number + " memory", Rig.memory(machine), memory(model));
        Check.same("machine " + number + " drive", Rig.drive(machine), drive(model));
    }

    private static void fill(SixtyFive machine, Model model) {
        for (int address = 0; address < 1008; address++) {
            int value = randomByte();
            machine.load(address, value, 1);
            model.memory[address] = value;
        }
        for (int sector = 0; sector < 8; sector++) {
            for (int at = 0; at < 32; at++) {
                int value = RANDOM.nextInt(256);
                machine.insert(sector, at, value, 1);
                model.drive[sector][at] = value;
            }
        }
        model.a = RANDOM.nextInt(256);
        model.x = RANDOM.nextInt(256);
        model.y = RANDOM.nextInt(256);
        model.s = RANDOM.nextInt(256);
        model.pc = RANDOM.nextInt(4) == 0 ? 1000 + RANDOM.nextInt(24) : RANDOM.nextInt(1024);
        model.setStatus(RANDOM.nextInt(256));
        machine.put(Rig.A, model.a);
        machine.put(Rig.X, model.x);
        machine.put(Rig.Y, model.y);
        machine.put(Rig.S, model.s);
        machine.put(Rig.PC, model.pc);
        machine.put(Rig.FLAGS, model.status());
    }

    /** Mostly codes of instructions, and now and then a byte that leads to the cells. */
    private static int randomByte() {
        if (RANDOM.nextInt(6) == 0) {
            return 0xE8 + RANDOM.nextInt(16);
        }
        int value = RANDOM.nextInt(256);
        for (int i = 0; i < 3 && Opcodes.NAMES[value] == null; i++) {
            value = RANDOM.nextInt(256);
        }
        return value;
    }

    private static void stir(SixtyFive machine, Model model) {
        if (model.key < 0 && RANDOM.nextInt(3) == 0) {
            model.key = RANDOM.nextInt(128);
            machine.press(model.key);
        }
        if (RANDOM.nextInt(3) == 0) {
            model.guarded = RANDOM.nextBoolean();
            machine.protect(model.guarded);
        }
        if (RANDOM.nextInt(4) == 0) {
            // A whole instruction with an address near the cells.
            int[] bytes = {randomByte(), 0xC0 + RANDOM.nextInt(64), 3 + 4 * RANDOM.nextInt(64)};
            for (int i = 0; i < 3 && model.pc + i < 1008; i++) {
                machine.load(model.pc + i, bytes[i], 1);
                model.memory[model.pc + i] = bytes[i];
            }
        }
        if (RANDOM.nextInt(4) == 0) {
            model.a = RANDOM.nextInt(10);
            machine.put(Rig.A, model.a);
        }
    }

    private static String registers(Model model) {
        return model.a + " " + model.x + " " + model.y + " " + model.s + " " + model.pc + " " + model.status() + " "
                + model.done + " " + model.keyByte() + " " + model.chosen + " " + model.latest;
    }

    private static String memory(Model model) {
        StringBuilder text = new StringBuilder();
        for (int address = 0; address < 1008; address++) {
            text.append(' ').append(model.memory[address]);
        }
        return text.toString();
    }

    private static String drive(Model model) {
        StringBuilder text = new StringBuilder();
        for (int[] sector : model.drive) {
            for (int value : sector) {
                text.append(' ').append(value);
            }
        }
        return text.toString();
    }
}
