/** Promise 7: random programs, always the same ones, on SixtyFive and on the model beside it. */
public final class Promise07ModelTest {
    private static final int PROGRAMS = 4000;
    private static final int STEPS = 20;
    // With what a twin does before, so many looks stay below the 512 calls of one object.
    private static final int PART = 200;

    public static void main(String[] args) {
        for (int number = 0; number < PROGRAMS; number++) {
            registers(number);
            for (int from = 0; from < Rig.OPEN; from += PART) {
                after(number).compareMemory("program " + number, from, Math.min(from + PART, Rig.OPEN));
            }
            after(number).compareDrive("program " + number, 0, Rig.DRIVE / 2);
            after(number).compareDrive("program " + number, Rig.DRIVE / 2, Rig.DRIVE);
        }
        Check.finish();
    }

    private static void registers(int number) {
        Twin twin = new Twin(number);
        for (int i = 0; i < STEPS; i++) {
            String place = "program " + number + ", step " + i + ", PC " + twin.model.pc;
            twin.stir();
            twin.step(place);
            twin.compareRegisters(place);
        }
    }

    private static Twin after(int number) {
        Twin twin = new Twin(number);
        for (int i = 0; i < STEPS; i++) {
            twin.stir();
            twin.step("program " + number + ", step " + i);
        }
        return twin;
    }
}
