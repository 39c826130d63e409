/** Promise 8: peek. */
public final class Promise08PeekTest {
    public static void main(String[] args) {
        SixtyFive machine = new SixtyFive();
        for (int address = 0; address <= 1007; address++) {
            machine.load(address, address * 7 + 3, 1);
        }
        String before = Rig.registers(machine);
        for (int address = 0; address <= 1007; address++) {
            Check.equal("peek(" + address + ")", machine.peek(address), (address * 7 + 3) & 255);
        }
        Check.same("peek changes nothing", Rig.registers(machine), before);
        machine.press(4);
        int[] addresses = {-1, 1008, 1009, 1010, 1023, 1024, 2031, Integer.MAX_VALUE, Integer.MIN_VALUE};
        for (int address : addresses) {
            Check.refuses("peek(" + address + ")", machine, () -> machine.peek(address));
        }
        Check.finish();
    }
}
