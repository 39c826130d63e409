import java.util.function.Supplier;

/** Promise 5: press. */
public final class Promise05PressTest {
    private static final Supplier<SixtyFive> WITH_KEY = () -> {
        SixtyFive machine = new SixtyFive();
        machine.press(0);
        return machine;
    };

    public static void main(String[] args) {
        codes();
        aKeyIsThere();
        thatIsIt();
        answers();
        rangeFirst();
        Check.finish();
    }

    private static void codes() {
        Check.sentence("code 0 .. 127");
        SixtyFive first = new SixtyFive();
        Check.equal("press(0)", first.press(0), 128);
        SixtyFive last = new SixtyFive();
        Check.equal("press(127)", last.press(127), 255);
        int[] wrong = {-1, -128, 128, 129, 255, 256, Integer.MAX_VALUE, Integer.MIN_VALUE};
        for (int code : wrong) {
            Check.refuses("press(" + code + ")", m -> m.press(code));
        }
        SixtyFive refused = new SixtyFive();
        Check.fails("press(128)", IllegalArgumentException.class, () -> refused.press(128));
        Check.equal("a refused one is no KEY: press(1)", refused.press(1), 129);
    }

    private static void aKeyIsThere() {
        Check.sentence("There is a KEY: IllegalStateException");
        int[] codes = {0, 1, 127};
        for (int code : codes) {
            Check.failsWithoutChange("press(" + code + ") with KEY 0", WITH_KEY, IllegalStateException.class,
                    m -> m.press(code));
            Check.failsWithoutChange("press(" + code + ") with KEY 77", Rig::used, IllegalStateException.class,
                    m -> m.press(code));
        }
        // LDA 1008 leaves the KEY, LDA 1009 takes it.
        SixtyFive machine = Rig.with(0xAD, 0xF0, 0x03, 0xAD, 0xF1, 0x03);
        machine.press(0);
        machine.run(1);
        Check.fails("press(1) after a READ of 1008", IllegalStateException.class, () -> machine.press(1));
        machine.run(1);
        Check.equal("press(1) after a READ of 1009", machine.press(1), 129);
        Check.fails("press(1) again", IllegalStateException.class, () -> machine.press(1));
        Check.equal("a refused press is no FAULT", machine.get(Rig.FAULT), 0);
    }

    private static void thatIsIt() {
        Check.sentence("That is it.");
        for (int code = 0; code <= 127; code++) {
            SixtyFive machine = new SixtyFive();
            machine.press(code);
            Check.same("only the KEY is there after press(" + code + ")", Rig.registers(machine),
                    "0 0 0 255 512 48 0 " + (128 + code) + " 0 0");
        }
        Check.same("no byte changes", Rig.kept(WITH_KEY), Rig.kept(SixtyFive::new));
    }

    private static void answers() {
        Check.sentence("Answers 128 plus it.");
        for (int code = 0; code <= 127; code++) {
            Check.equal("press(" + code + ")", new SixtyFive().press(code), 128 + code);
        }
    }

    private static void rangeFirst() {
        Check.sentence("What is thrown, in this order: IllegalArgumentException: a number out of range; "
                + "others as said.");
        int[] wrong = {-1, 128, Integer.MAX_VALUE, Integer.MIN_VALUE};
        for (int code : wrong) {
            Check.failsWithoutChange("press(" + code + ") with a KEY", WITH_KEY, IllegalArgumentException.class,
                    m -> m.press(code));
        }
    }
}
