/** Promise 2: load. */
public final class Promise02LoadTest {
    public static void main(String[] args) {
        ordinary();
        everyCount();
        edges();
        protectedToo();
        wrong();
        Check.finish();
    }

    private static void ordinary() {
        SixtyFive machine = new SixtyFive();
        Check.equal("load(100, 0x010203, 3)", machine.load(100, 0x010203L, 3), 103);
        Check.equal("the highest first", machine.peek(100), 1);
        Check.equal("the next", machine.peek(101), 2);
        Check.equal("the lowest last", machine.peek(102), 3);
        Check.equal("none before", machine.peek(99), 0);
        Check.equal("none behind", machine.peek(103), 0);
        Check.same("no register moves", Rig.registers(machine), "0 0 0 255 512 48 0 0 0 0");
    }

    private static void everyCount() {
        long bytes = 0xF1E2D3C4B5A69788L;
        int[] all = {0xF1, 0xE2, 0xD3, 0xC4, 0xB5, 0xA6, 0x97, 0x88};
        for (int count = 1; count <= 8; count++) {
            SixtyFive machine = new SixtyFive();
            Check.equal("load, count " + count, machine.load(300, bytes, count), 300 + count);
            for (int i = 0; i < 8; i++) {
                int due = i < count ? all[8 - count + i] : 0;
                Check.equal("count " + count + ", byte " + i, machine.peek(300 + i), due);
            }
        }
        SixtyFive machine = new SixtyFive();
        machine.load(0, -1L, 8);
        machine.load(0, 0L, 8);
        Check.equal("zeros replace what was there", machine.peek(0), 0);
        machine.load(8, -1L, 1);
        Check.equal("a negative number's lowest byte", machine.peek(8), 255);
    }

    private static void edges() {
        SixtyFive machine = new SixtyFive();
        Check.equal("load(0, 7, 1)", machine.load(0, 7, 1), 1);
        Check.equal("load(1007, 8, 1)", machine.load(1007, 8, 1), 1008);
        Check.equal("load(1000, .., 8)", machine.load(1000, 0x1112131415161718L, 8), 1008);
        Check.equal("peek(1000)", machine.peek(1000), 0x11);
        Check.equal("peek(1007)", machine.peek(1007), 0x18);
        Check.equal("peek(0)", machine.peek(0), 7);
    }

    private static void protectedToo() {
        SixtyFive machine = new SixtyFive();
        machine.protect(true);
        Check.equal("load into PROTECTED", machine.load(960, 5, 1), 961);
        Check.equal("it is there", machine.peek(960), 5);
    }

    private static void wrong() {
        SixtyFive machine = new SixtyFive();
        int[][] pairs = {{-1, 1}, {1008, 1}, {1023, 1}, {1024, 1}, {1007, 2}, {1001, 8}, {0, 0}, {0, -1}, {0, 9},
            {5, Integer.MAX_VALUE}, {Integer.MAX_VALUE, 1}, {Integer.MAX_VALUE, 8}, {Integer.MIN_VALUE, 1},
            {1007, Integer.MIN_VALUE}, {-8, 8}};
        for (int[] pair : pairs) {
            Check.refuses("load(" + pair[0] + ", -1, " + pair[1] + ")", machine,
                    () -> machine.load(pair[0], -1L, pair[1]));
        }
    }
}
