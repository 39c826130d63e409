/** Promise 8: peek. */
public final class Promise08PeekTest {
    public static void main(String[] args) {
        before();
        range();
        notOfCells();
        everyByte();
        changesNothing();
        Check.finish();
    }

    private static void before() {
        Check.sentence("all 0 at first");
        Check.equal("peek(0) before anything", new SixtyFive().peek(0), 0);
        Check.equal("peek(1007) before anything", new SixtyFive().peek(1007), 0);
    }

    private static void range() {
        Check.sentence("address 0 .. 1007");
        SixtyFive machine = new SixtyFive();
        machine.load(0, 255, 1);
        machine.load(1007, 254, 1);
        Check.equal("peek(0)", machine.peek(0), 255);
        Check.equal("peek(1007)", machine.peek(1007), 254);
        int[] wrong = {-1, -1024, 1008, 1024, 2031, Integer.MAX_VALUE, Integer.MIN_VALUE};
        for (int address : wrong) {
            Check.refuses("peek(" + address + ")", m -> m.peek(address));
        }
    }

    private static void notOfCells() {
        Check.sentence("A byte of MEMORY (not of CELLS)");
        for (int cell = 1008; cell <= 1023; cell++) {
            int address = cell;
            Check.refuses("peek(" + cell + ") with a KEY and a SECTOR", m -> m.peek(address));
        }
    }

    private static void everyByte() {
        Check.sentence("A byte of MEMORY");
        int[] due = new int[Rig.OPEN];
        for (int address = 0; address < due.length; address++) {
            due[address] = (address * 7 + address / 256) & 255;
        }
        int[] got = Rig.memory(() -> {
            SixtyFive machine = new SixtyFive();
            Rig.bytes(machine, 0, due);
            return machine;
        });
        Check.same("all bytes", Rig.text(got), Rig.text(due));
    }

    private static void changesNothing() {
        Check.sentence("`int peek(int address) throws IllegalArgumentException`");
        Check.answersWithoutChange("peek(0)", Rig::used, 1, m -> m.peek(0));
        Check.answersWithoutChange("peek(1007) while PROTECTED", Rig::used, 1007 * 7 % 255 + 1, m -> m.peek(1007));
    }
}
