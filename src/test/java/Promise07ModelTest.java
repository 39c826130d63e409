import java.util.Random;

/** Promise 7: random programs, always the same ones, on SixtyFive and on the model beside it. */
public final class Promise07ModelTest {
    private static final int PROGRAMS = 4000;
    private static final int STEPS = 20;
    // With the calls that come before, so many looks stay within the 512 of one object.
    private static final int PART = 200;
    private static final int PLACES = Rig.OPEN + Rig.DRIVE;

    private final Random random;
    private final Twin twin;

    private Promise07ModelTest(int seed) {
        random = new Random(seed);
        twin = new Twin(address -> randomByte(), place -> random.nextInt(256));
        twin.put(Rig.A, random.nextInt(256));
        twin.put(Rig.X, random.nextInt(256));
        twin.put(Rig.Y, random.nextInt(256));
        twin.put(Rig.S, random.nextInt(256));
        twin.put(Rig.PC, random.nextInt(4) == 0 ? 1000 + random.nextInt(24) : random.nextInt(1024));
        twin.put(Rig.FLAGS, random.nextInt(256));
    }

    public static void main(String[] args) {
        for (int number = 0; number < PROGRAMS; number++) {
            new Promise07ModelTest(number).run("program " + number, true);
            for (int from = 0; from < PLACES; from += PART) {
                Promise07ModelTest again = new Promise07ModelTest(number);
                again.run("program " + number, false);
                again.twin.comparePlaces("program " + number, from, Math.min(from + PART, PLACES));
            }
        }
        Check.finish();
    }

    private void run(String name, boolean isLookedAt) {
        for (int i = 0; i < STEPS; i++) {
            stir();
            String place = name + ", step " + i + ", PC " + twin.model.pc;
            int fault = twin.step(place);
            if (isLookedAt) {
                twin.compareRegisters(place);
            }
            if (fault == 1 || fault == 4) {
                twin.put(Rig.PC, random.nextInt(1024));
            }
        }
    }

    /** Mostly codes of instructions, and now and then a byte that leads to the cells. */
    private int randomByte() {
        if (random.nextInt(6) == 0) {
            return 0xE8 + random.nextInt(16);
        }
        int value = random.nextInt(256);
        for (int i = 0; i < 3 && Opcodes.NAMES[value] == null; i++) {
            value = random.nextInt(256);
        }
        return value;
    }

    /** A key, protection, an instruction near the cells, a small A: each now and then. */
    private void stir() {
        if (twin.model.key < 0 && random.nextInt(3) == 0) {
            twin.press(random.nextInt(128));
        }
        if (random.nextInt(3) == 0) {
            twin.protect(random.nextBoolean());
        }
        if (random.nextInt(4) == 0 && twin.model.pc <= 1005) {
            twin.bytes(twin.model.pc, randomByte(), 0xC0 + random.nextInt(64), 3 + 4 * random.nextInt(64));
        }
        if (random.nextInt(4) == 0) {
            twin.put(Rig.A, random.nextInt(10));
        }
    }
}
