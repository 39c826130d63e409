/** Promise 7: every code with bytes and registers at their boundaries, on SixtyFive and on the model beside it. */
public final class Promise07SweepTest {
    private static final int[] BYTES = {0, 1, 127, 128, 254, 255};
    // Words from each of the four pages, and from above 1023.
    private static final int[] HIGHS = {0, 1, 2, 3, 4, 255};
    private static final int[][] XY = {{0, 0}, {1, 255}, {255, 1}, {128, 127}, {3, 5}};
    private static final int[] NUMBERS = {0, 1, 7, 8, 127, 128, 255};
    private static final int PLACES = Rig.OPEN + Rig.DRIVE;
    // A machine shows a fourth of its places, so that it stays within 512 calls; the next shows the next fourth.
    private static final int PARTS = 4;

    private static int machines = 0;

    public static void main(String[] args) {
        Check.sentence("MODES and the ADDRESS E they lead to");
        for (int code = 0; code <= 255; code++) {
            boolean hasBytes = Opcodes.NAMES[code] != null && Opcodes.size(code) > 1;
            for (int b : BYTES) {
                for (int h : HIGHS) {
                    for (int[] xy : XY) {
                        if (hasBytes || b == BYTES[0]) {
                            one(code, b, h, xy);
                        }
                    }
                }
            }
        }
        Check.finish();
    }

    private static void one(int code, int b, int h, int[] xy) {
        int number = machines++;
        int salt = number % 251;
        Twin twin = new Twin(address -> (address + salt) * (address + 7) >> 3, place -> place * 5 + salt);
        twin.bytes(0x2A0, code, b, h);
        twin.put(Rig.PC, 0x2A0);
        twin.put(Rig.A, NUMBERS[number % NUMBERS.length]);
        twin.put(Rig.X, xy[0]);
        twin.put(Rig.Y, xy[1]);
        twin.put(Rig.S, BYTES[number % BYTES.length]);
        twin.put(Rig.FLAGS, number * 37 % 256);
        twin.press(number % 128);
        twin.protect(number % 2 == 0);
        String what = Opcodes.NAMES[code] + " (code " + code + ") b " + b + " h " + h + " X " + xy[0] + " Y " + xy[1]
                + ", machine " + number;
        twin.step(what);
        twin.compareRegisters(what);
        int part = number % PARTS;
        twin.comparePlaces(what, PLACES / PARTS * part, PLACES / PARTS * (part + 1));
    }
}
