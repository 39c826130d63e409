/** Promise 3: insert. */
public final class Promise03InsertTest {
    private static final long BYTES = 0xF1E2D3C4B5A69788L;
    private static final int[] EACH = {0xF1, 0xE2, 0xD3, 0xC4, 0xB5, 0xA6, 0x97, 0x88};

    public static void main(String[] args) {
        sectors();
        places();
        counts();
        notBehind();
        lowestBytes();
        answers();
        nothingElse();
        Check.finish();
    }

    private static void sectors() {
        Check.sentence("sector 0 .. 7");
        SixtyFive machine = new SixtyFive();
        Check.equal("insert(0, 5, 9, 1)", machine.insert(0, 5, 9, 1), 6);
        Check.equal("sector(0, 5)", machine.sector(0, 5), 9);
        Check.equal("insert(7, 5, 8, 1)", machine.insert(7, 5, 8, 1), 6);
        Check.equal("sector(7, 5)", machine.sector(7, 5), 8);
        int[] wrong = {-1, 8, 9, 255, 0x08000000, Integer.MAX_VALUE, Integer.MIN_VALUE};
        for (int sector : wrong) {
            Check.refuses("insert(" + sector + ", 0, -1, 1)", m -> m.insert(sector, 0, -1L, 1));
        }
    }

    private static void places() {
        Check.sentence("at 0 .. 31");
        SixtyFive machine = new SixtyFive();
        Check.equal("insert(3, 0, 9, 1)", machine.insert(3, 0, 9, 1), 1);
        Check.equal("sector(3, 0)", machine.sector(3, 0), 9);
        Check.equal("insert(3, 31, 8, 1)", machine.insert(3, 31, 8, 1), 32);
        Check.equal("sector(3, 31)", machine.sector(3, 31), 8);
        int[] wrong = {-1, -32, 32, 33, 255, Integer.MAX_VALUE, Integer.MIN_VALUE};
        for (int at : wrong) {
            Check.refuses("insert(3, " + at + ", -1, 1)", m -> m.insert(3, at, -1L, 1));
        }
    }

    private static void counts() {
        Check.sentence("likewise");
        SixtyFive machine = new SixtyFive();
        Check.equal("insert(3, 4, 5, 1)", machine.insert(3, 4, 5, 1), 5);
        Check.equal("insert(3, 4, 5, 8)", machine.insert(3, 4, 5, 8), 12);
        int[] wrong = {0, -1, 9, 32, Integer.MAX_VALUE, Integer.MIN_VALUE};
        for (int count : wrong) {
            Check.refuses("insert(3, 4, -1, " + count + ")", m -> m.insert(3, 4, -1L, count));
        }
    }

    private static void notBehind() {
        Check.sentence("likewise, not behind 31");
        for (int count = 1; count <= 8; count++) {
            int size = count;
            int last = 32 - count;
            for (int sector = 0; sector <= 7; sector += 7) {
                SixtyFive machine = new SixtyFive();
                Check.equal("insert(" + sector + ", " + last + ", -1, " + count + ")",
                        machine.insert(sector, last, -1L, count), 32);
                Check.equal("its first byte", machine.sector(sector, last), 255);
                Check.equal("its last byte", machine.sector(sector, 31), 255);
                Check.equal("none before", machine.sector(sector, last - 1), 0);
                Check.equal("none around at 0", machine.sector(sector, 0), 0);
            }
            Check.refuses("insert(0, " + (last + 1) + ", -1, " + count + ")", m -> m.insert(0, last + 1, -1L, size));
            Check.refuses("insert(7, " + (last + 1) + ", -1, " + count + ")", m -> m.insert(7, last + 1, -1L, size));
        }
        Check.refuses("insert(0, 2147483647, -1, 8)", m -> m.insert(0, Integer.MAX_VALUE, -1L, 8));
        Check.refuses("insert(1, -8, -1, 8)", m -> m.insert(1, -8, -1L, 8));
    }

    private static void lowestBytes() {
        Check.sentence("likewise");
        for (int sector = 0; sector < 8; sector++) {
            for (int count = 1; count <= 8; count++) {
                SixtyFive machine = new SixtyFive();
                machine.insert(sector, 24, BYTES, count);
                int[] due = new int[Rig.DRIVE];
                System.arraycopy(EACH, 8 - count, due, sector * 32 + 24, count);
                Check.same("the drive after insert(" + sector + ", 24, .., " + count + ")",
                        Rig.text(Rig.drive(() -> machine)), Rig.text(due));
            }
        }
    }

    private static void answers() {
        Check.sentence("Answers the place behind.");
        SixtyFive machine = new SixtyFive();
        Check.equal("insert(0, 0, 0, 1)", machine.insert(0, 0, 0, 1), 1);
        Check.equal("insert(5, 10, 0, 3)", machine.insert(5, 10, 0, 3), 13);
        Check.equal("insert(7, 24, 0, 8): behind the last", machine.insert(7, 24, 0, 8), 32);
    }

    private static void nothingElse() {
        Check.sentence("`int insert(int sector, int at, long bytes, int count) throws IllegalArgumentException`");
        SixtyFive machine = Rig.used();
        String before = Rig.registers(machine);
        machine.insert(2, 0, -1L, 8);
        Check.same("no register moves, SECTOR 6 is still the one", Rig.registers(machine), before);
        Check.equal("no MEMORY changes", machine.peek(768), Rig.used().peek(768));
    }
}
