import java.util.function.LongSupplier;

/** Counts and prints what is not as due; a test ends with finish(). */
final class Check {
    private static int wrong = 0;
    private static int looks = 0;

    private Check() {
    }

    static void equal(String what, long got, long due) {
        looks++;
        if (got != due) {
            wrong++;
            System.out.println(what + " answered " + got + ", due is " + due);
        }
    }

    static void same(String what, String got, String due) {
        looks++;
        if (!got.equals(due)) {
            wrong++;
            System.out.println(what + ":\n  got " + got + "\n  due " + due);
        }
    }

    static void fails(String what, Class<? extends RuntimeException> due, LongSupplier call) {
        String got;
        try {
            got = "answer " + call.getAsLong();
        } catch (RuntimeException e) {
            got = e.getClass().getName();
        }
        same(what, got, due.getName());
    }

    /** The call fails, and everything that can be seen of the machine stays as it was. */
    static void failsWithoutChange(String what, SixtyFive machine, Class<? extends RuntimeException> due,
            LongSupplier call) {
        String before = Rig.state(machine);
        fails(what, due, call);
        same(what + " changes nothing", Rig.state(machine), before);
    }

    /** A number out of range: IllegalArgumentException, and nothing changes. */
    static void refuses(String what, SixtyFive machine, LongSupplier call) {
        failsWithoutChange(what, machine, IllegalArgumentException.class, call);
    }

    static void finish() {
        if (wrong != 0) {
            System.out.println(wrong + " of " + looks + " looks are wrong");
            System.exit(1);
        }
        System.out.println(looks + " looks, all as due");
    }
}
