/** Promise 3: insert. */
public final class Promise03InsertTest {
    public static void main(String[] args) {
        ordinary();
        edges();
        wrong();
        Check.finish();
    }

    private static void ordinary() {
        SixtyFive machine = new SixtyFive();
        Check.equal("insert(2, 10, 0x0A0B0C, 3)", machine.insert(2, 10, 0x0A0B0CL, 3), 13);
        Check.equal("the highest first", machine.sector(2, 10), 10);
        Check.equal("the next", machine.sector(2, 11), 11);
        Check.equal("the lowest last", machine.sector(2, 12), 12);
        Check.equal("none before", machine.sector(2, 9), 0);
        Check.equal("none behind", machine.sector(2, 13), 0);
        Check.equal("not in another sector", machine.sector(3, 10), 0);
        Check.equal("no memory changes", machine.peek(778), 0);
        Check.equal("only the lowest bytes", machine.insert(2, 20, 0x123456789ABCDEF0L, 2), 22);
        Check.equal("the last but one", machine.sector(2, 20), 0xDE);
        Check.equal("the last", machine.sector(2, 21), 0xF0);
    }

    private static void edges() {
        for (int sector = 0; sector < 8; sector++) {
            SixtyFive machine = new SixtyFive();
            Check.equal("at 0", machine.insert(sector, 0, -1L, 8), 8);
            Check.equal("up to 31", machine.insert(sector, 24, 0x8182838485868788L, 8), 32);
            Check.equal("at 31", machine.insert(sector, 31, 77, 1), 32);
            for (int other = 0; other < 8; other++) {
                Check.equal("first byte of " + other, machine.sector(other, 0), other == sector ? 255 : 0);
                Check.equal("byte 24 of " + other, machine.sector(other, 24), other == sector ? 0x81 : 0);
                Check.equal("last byte of " + other, machine.sector(other, 31), other == sector ? 77 : 0);
            }
            Check.equal("the chosen sector stays", machine.get(Rig.SECTOR), 0);
        }
    }

    private static void wrong() {
        SixtyFive machine = new SixtyFive();
        int[][] rows = {{-1, 0, 1}, {8, 0, 1}, {0, -1, 1}, {0, 32, 1}, {0, 31, 2}, {0, 25, 8}, {0, 0, 0}, {0, 0, 9},
            {0, 0, -1}, {7, 31, 2}, {Integer.MAX_VALUE, 0, 1}, {Integer.MIN_VALUE, 0, 1}, {0, Integer.MAX_VALUE, 8},
            {0, Integer.MIN_VALUE, 8}, {0, 1, Integer.MAX_VALUE}, {0x08000000, 0, 1}};
        for (int[] row : rows) {
            Check.refuses("insert(" + row[0] + ", " + row[1] + ", -1, " + row[2] + ")", machine,
                    () -> machine.insert(row[0], row[1], -1L, row[2]));
        }
    }
}
