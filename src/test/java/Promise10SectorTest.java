/** Promise 10: sector. */
public final class Promise10SectorTest {
    public static void main(String[] args) {
        before();
        numbers();
        places();
        everyByte();
        changesNothing();
        Check.finish();
    }

    private static void before() {
        Check.sentence("All as said.");
        Check.equal("sector(0, 0) before anything", new SixtyFive().sector(0, 0), 0);
        Check.equal("sector(7, 31) before anything", new SixtyFive().sector(7, 31), 0);
    }

    private static void numbers() {
        Check.sentence("of SECTOR 0 .. 7");
        SixtyFive machine = new SixtyFive();
        machine.insert(0, 9, 255, 1);
        machine.insert(7, 9, 254, 1);
        Check.equal("sector(0, 9)", machine.sector(0, 9), 255);
        Check.equal("sector(7, 9)", machine.sector(7, 9), 254);
        int[] wrong = {-1, 8, 9, 0x08000000, Integer.MAX_VALUE, Integer.MIN_VALUE};
        for (int sector : wrong) {
            Check.refuses("sector(" + sector + ", 0)", m -> m.sector(sector, 0));
            Check.refuses("sector(" + sector + ", 31)", m -> m.sector(sector, 31));
        }
    }

    private static void places() {
        Check.sentence("Byte 0 .. 31");
        SixtyFive machine = new SixtyFive();
        machine.insert(4, 0, 255, 1);
        machine.insert(4, 31, 254, 1);
        Check.equal("sector(4, 0)", machine.sector(4, 0), 255);
        Check.equal("sector(4, 31)", machine.sector(4, 31), 254);
        int[] wrong = {-1, -32, 32, 33, 255, Integer.MAX_VALUE, Integer.MIN_VALUE};
        for (int at : wrong) {
            Check.refuses("sector(0, " + at + ")", m -> m.sector(0, at));
            Check.refuses("sector(4, " + at + ")", m -> m.sector(4, at));
            Check.refuses("sector(7, " + at + ")", m -> m.sector(7, at));
        }
        Check.refuses("sector(-1, 32)", m -> m.sector(-1, 32));
    }

    private static void everyByte() {
        Check.sentence("Byte 0 .. 31 of SECTOR 0 .. 7.");
        SixtyFive machine = new SixtyFive();
        Rig.fillDrive(machine, place -> 255 - place);
        for (int sector = 0; sector < 8; sector++) {
            for (int at = 0; at < 32; at++) {
                Check.equal("sector(" + sector + ", " + at + ")", machine.sector(sector, at), 255 - sector * 32 - at);
            }
        }
    }

    private static void changesNothing() {
        Check.sentence("`int sector(int sector, int at) throws IllegalArgumentException`");
        Check.answersWithoutChange("sector(0, 0)", Rig::used, 1, m -> m.sector(0, 0));
        Check.answersWithoutChange("sector(7, 31)", Rig::used, 1, m -> m.sector(7, 31));
    }
}
