/** Promise 5: press. */
public final class Promise05PressTest {
    public static void main(String[] args) {
        everyCode();
        aKeyIsThere();
        wrong();
        Check.finish();
    }

    private static void everyCode() {
        for (int code = 0; code <= 127; code++) {
            SixtyFive machine = new SixtyFive();
            Check.equal("press(" + code + ")", machine.press(code), 128 + code);
            Check.equal("get(7)", machine.get(Rig.KEY), 128 + code);
        }
    }

    private static void aKeyIsThere() {
        // LDA 1009 takes the key.
        SixtyFive machine = Rig.with(0xAD, 0xF1, 0x03);
        machine.press(0);
        Check.failsWithoutChange("press(1) with key 0 there", machine, IllegalStateException.class,
                () -> machine.press(1));
        Check.failsWithoutChange("the same key again", machine, IllegalStateException.class, () -> machine.press(0));
        Check.equal("a failing press is no FAULT", machine.get(Rig.FAULT), 0);
        machine.run(1);
        Check.equal("press after the key was taken", machine.press(1), 129);
    }

    private static void wrong() {
        SixtyFive machine = new SixtyFive();
        int[] codes = {-1, 128, 255, 256, Integer.MAX_VALUE, Integer.MIN_VALUE};
        for (int code : codes) {
            Check.refuses("press(" + code + ")", machine, () -> machine.press(code));
        }
        machine.press(3);
        for (int code : codes) {
            Check.refuses("press(" + code + ") with a key: range first", machine, () -> machine.press(code));
        }
    }
}
