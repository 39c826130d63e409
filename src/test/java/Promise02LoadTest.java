import java.util.Arrays;

/** Promise 2: load. */
public final class Promise02LoadTest {
    private static final long BYTES = 0xF1E2D3C4B5A69788L;
    private static final int[] EACH = {0xF1, 0xE2, 0xD3, 0xC4, 0xB5, 0xA6, 0x97, 0x88};

    public static void main(String[] args) {
        addresses();
        counts();
        notBehind();
        lowestBytes();
        signs();
        protectedToo();
        answers();
        nothingElse();
        Check.finish();
    }

    private static void addresses() {
        Check.sentence("address 0 .. 1007");
        SixtyFive machine = new SixtyFive();
        Check.equal("load(0, 7, 1)", machine.load(0, 7, 1), 1);
        Check.equal("peek(0)", machine.peek(0), 7);
        Check.equal("load(1007, 8, 1)", machine.load(1007, 8, 1), 1008);
        Check.equal("peek(1007)", machine.peek(1007), 8);
        int[] wrong = {-1, 1008, 1009, 1023, 1024, 2031, Integer.MAX_VALUE, Integer.MIN_VALUE};
        for (int address : wrong) {
            Check.refuses("load(" + address + ", -1, 1)", m -> m.load(address, -1L, 1));
        }
    }

    private static void counts() {
        Check.sentence("count 1 .. 8");
        SixtyFive machine = new SixtyFive();
        Check.equal("load(100, 5, 1)", machine.load(100, 5, 1), 101);
        Check.equal("load(100, 5, 8)", machine.load(100, 5, 8), 108);
        int[] wrong = {0, -1, -8, 9, 16, 256, Integer.MAX_VALUE, Integer.MIN_VALUE};
        for (int count : wrong) {
            Check.refuses("load(100, -1, " + count + ")", m -> m.load(100, -1L, count));
        }
    }

    private static void notBehind() {
        Check.sentence("not behind 1007");
        for (int count = 1; count <= 8; count++) {
            int size = count;
            int last = 1008 - count;
            SixtyFive machine = new SixtyFive();
            Check.equal("load(" + last + ", -1, " + count + ")", machine.load(last, -1L, count), 1008);
            Check.equal("its first byte", machine.peek(last), 255);
            Check.equal("its last byte", machine.peek(1007), 255);
            Check.equal("none before", machine.peek(last - 1), 0);
            Check.equal("none around at 0", machine.peek(0), 0);
            Check.refuses("load(" + (last + 1) + ", -1, " + count + ")", m -> m.load(last + 1, -1L, size));
        }
        Check.refuses("load(2147483647, -1, 8)", m -> m.load(Integer.MAX_VALUE, -1L, 8));
        Check.refuses("load(1, -1, 2147483647)", m -> m.load(1, -1L, Integer.MAX_VALUE));
        Check.refuses("load(-8, -1, 8)", m -> m.load(-8, -1L, 8));
    }

    private static void lowestBytes() {
        Check.sentence("the lowest bytes of the number, the highest of them first, are in MEMORY from there on");
        for (int count = 1; count <= 8; count++) {
            int size = count;
            int[] due = new int[Rig.OPEN];
            System.arraycopy(EACH, 8 - count, due, 300, count);
            int[] got = Rig.memory(() -> {
                SixtyFive machine = new SixtyFive();
                machine.load(300, BYTES, size);
                return machine;
            });
            Check.same("the memory after load(300, .., " + count + ")", Rig.text(got), Rig.text(due));
        }
    }

    private static void signs() {
        Check.sentence("the lowest bytes of the number");
        long[] numbers = {0L, -1L, 255L, 256L, -256L, Long.MAX_VALUE, Long.MIN_VALUE};
        // The bytes at 0, 6 and 7.
        int[][] rows = {{0, 0, 0}, {255, 255, 255}, {0, 0, 255}, {0, 1, 0}, {255, 255, 0}, {127, 255, 255},
            {128, 0, 0}};
        for (int i = 0; i < numbers.length; i++) {
            SixtyFive machine = new SixtyFive();
            machine.load(0, 0x5555555555555555L, 8);
            machine.load(0, numbers[i], 8);
            int[] got = {machine.peek(0), machine.peek(6), machine.peek(7)};
            Check.same("first and last bytes of " + numbers[i], Arrays.toString(got), Arrays.toString(rows[i]));
            machine.load(500, numbers[i], 1);
            Check.equal("lowest byte of " + numbers[i], machine.peek(500), rows[i][2]);
        }
    }

    private static void protectedToo() {
        Check.sentence("(PROTECTED too)");
        int[] addresses = {952, 953, 959, 960, 1000};
        for (int address : addresses) {
            SixtyFive machine = new SixtyFive();
            machine.protect(true);
            Check.equal("load(" + address + ", .., 8) while PROTECTED", machine.load(address, BYTES, 8), address + 8);
            for (int i = 0; i < 8; i++) {
                Check.equal("peek(" + (address + i) + ")", machine.peek(address + i), EACH[i]);
            }
            Check.equal("it is no FAULT", machine.get(Rig.FAULT), 0);
            Check.equal("PROTECTED stays", machine.protect(true) ? 1 : 0, 1);
        }
    }

    private static void answers() {
        Check.sentence("Answers the ADDRESS behind.");
        SixtyFive machine = new SixtyFive();
        Check.equal("load(0, 0, 1)", machine.load(0, 0, 1), 1);
        Check.equal("load(100, 0, 3)", machine.load(100, 0, 3), 103);
        Check.equal("load(1000, 0, 8): 1008, a CELL", machine.load(1000, 0, 8), 1008);
    }

    private static void nothingElse() {
        Check.sentence("are in MEMORY from there on");
        SixtyFive machine = Rig.used();
        String before = Rig.registers(machine);
        machine.load(768, -1L, 8);
        Check.same("no register moves", Rig.registers(machine), before);
        Check.equal("no SECTOR changes", machine.sector(6, 0), Rig.used().sector(6, 0));
    }
}
