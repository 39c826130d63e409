import java.util.function.LongSupplier;
import java.util.function.Supplier;
import java.util.function.ToLongFunction;

/** Counts and prints what is not as due; a test ends with finish(). */
final class Check {
    private static int wrong = 0;
    private static int looks = 0;
    private static int sentences = 0;
    private static String words = "";

    private Check() {
    }

    /** The words of the document that the looks from here on are for. */
    static void sentence(String quoted) {
        sentences++;
        words = quoted;
    }

    static void equal(String what, long got, long due) {
        looks++;
        if (got != due) {
            report(what + " answered " + got + ", due is " + due);
        }
    }

    static void same(String what, String got, String due) {
        looks++;
        if (!got.equals(due)) {
            report(what + ":\n  got " + got + "\n  due " + due);
        }
    }

    private static void report(String what) {
        wrong++;
        System.out.println((words.isEmpty() ? "" : "\"" + words + "\": ") + what);
    }

    static void fails(String what, Class<? extends RuntimeException> due, LongSupplier call) {
        String got;
        try {
            got = "answer " + call.getAsLong();
        } catch (RuntimeException e) {
            got = e.getClass().getName();
        }
        same(what, got, due.getName());
    }

    /** The call fails, and everything that can be seen of the machine stays as it was. */
    static void failsWithoutChange(String what, Supplier<SixtyFive> maker, Class<? extends RuntimeException> due,
            ToLongFunction<SixtyFive> call) {
        String after = Rig.state(() -> {
            SixtyFive machine = maker.get();
            fails(what, due, () -> call.applyAsLong(machine));
            return machine;
        });
        same(what + " changes nothing", after, Rig.state(maker));
    }

    /** A number out of range: IllegalArgumentException, and nothing changes in a new machine or a used one. */
    static void refuses(String what, ToLongFunction<SixtyFive> call) {
        failsWithoutChange(what + " of a new object", SixtyFive::new, IllegalArgumentException.class, call);
        failsWithoutChange(what + " of a used object", Rig::used, IllegalArgumentException.class, call);
    }

    /** The call gives its answer, and everything that can be seen of the machine stays as it was. */
    static void answersWithoutChange(String what, Supplier<SixtyFive> maker, long due,
            ToLongFunction<SixtyFive> call) {
        String after = Rig.state(() -> {
            SixtyFive machine = maker.get();
            equal(what, call.applyAsLong(machine), due);
            return machine;
        });
        same(what + " changes nothing", after, Rig.state(maker));
    }

    /** One instruction has this FAULT, and nothing changes but the latest FAULT and, if it is taken, the KEY. */
    static void faults(String what, Supplier<SixtyFive> maker, int fault, boolean takesKey) {
        Supplier<SixtyFive> stopped = () -> {
            SixtyFive machine = maker.get();
            equal(what, Rig.step(machine), fault);
            return machine;
        };
        int[] due = Rig.row(maker.get());
        due[Rig.FAULT] = fault;
        due[Rig.KEY] = takesKey ? 0 : due[Rig.KEY];
        same(what + ", registers", Rig.registers(stopped.get()), Rig.text(due));
        same(what + ", the rest", Rig.kept(stopped), Rig.kept(maker));
    }

    static void faults(String what, Supplier<SixtyFive> maker, int fault) {
        faults(what, maker, fault, false);
    }

    static void finish() {
        String all = looks + " looks" + (sentences == 0 ? "" : " at " + sentences + " sentences");
        if (wrong != 0) {
            System.out.println(wrong + " of " + all + " are wrong");
            System.exit(1);
        }
        System.out.println(all + ", all as due");
    }
}
