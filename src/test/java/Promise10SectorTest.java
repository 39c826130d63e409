/** Promise 10: sector. */
public final class Promise10SectorTest {
    public static void main(String[] args) {
        SixtyFive machine = new SixtyFive();
        for (int sector = 0; sector < 8; sector++) {
            for (int at = 0; at < 32; at++) {
                machine.insert(sector, at, sector * 32 + at, 1);
            }
        }
        String before = Rig.registers(machine);
        for (int sector = 0; sector < 8; sector++) {
            for (int at = 0; at < 32; at++) {
                Check.equal("sector(" + sector + ", " + at + ")", machine.sector(sector, at), sector * 32 + at);
            }
        }
        Check.same("sector changes nothing", Rig.registers(machine), before);
        int[][] pairs = {{-1, 0}, {8, 0}, {0, -1}, {0, 32}, {7, 32}, {-1, 32}, {Integer.MAX_VALUE, 0},
            {Integer.MIN_VALUE, 0}, {0, Integer.MAX_VALUE}, {0, Integer.MIN_VALUE}, {0x08000000, 0}};
        for (int[] pair : pairs) {
            Check.refuses("sector(" + pair[0] + ", " + pair[1] + ")", machine,
                    () -> machine.sector(pair[0], pair[1]));
        }
        Check.finish();
    }
}
