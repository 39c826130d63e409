import java.lang.reflect.Constructor;
import java.lang.reflect.Field;
import java.lang.reflect.Method;
import java.lang.reflect.Modifier;
import java.util.Arrays;
import java.util.TreeSet;

/** The public face: the class, its calls and what each may throw, and no member beside them. */
public final class FaceTest {
    private static final String RANGE = "java.lang.IllegalArgumentException";
    private static final String STATE = "java.lang.IllegalStateException";

    public static void main(String[] args) {
        theClass();
        theConstructor();
        theCalls();
        nothingElse();
        theClassesInside();
        Check.finish();
    }

    private static void theClass() {
        Check.sentence("public final class SixtyFive {");
        Check.same("modifiers", Modifier.toString(SixtyFive.class.getModifiers()), "public final");
        Check.same("no package", SixtyFive.class.getPackageName(), "");
        Check.same("no class above it", SixtyFive.class.getSuperclass().getName(), "java.lang.Object");
        Check.equal("no interfaces", SixtyFive.class.getInterfaces().length, 0);
    }

    private static void theConstructor() {
        Check.sentence("public SixtyFive();");
        Constructor<?>[] constructors = SixtyFive.class.getDeclaredConstructors();
        Check.equal("how many", constructors.length, 1);
        Check.same("the one", constructors[0].toGenericString(), "public SixtyFive()");
    }

    private static void theCalls() {
        Check.sentence("## The public face");
        TreeSet<String> due = new TreeSet<>();
        due.add("public int load(int, long, int) throws " + RANGE);
        due.add("public int insert(int, int, long, int) throws " + RANGE);
        due.add("public int put(int, int) throws " + RANGE);
        due.add("public int press(int) throws " + RANGE + " " + STATE);
        due.add("public boolean protect(boolean)");
        due.add("public int run(int) throws " + RANGE + " " + STATE + " java.lang.UnsupportedOperationException"
                + " java.lang.IndexOutOfBoundsException java.util.NoSuchElementException");
        due.add("public int peek(int) throws " + RANGE);
        due.add("public int get(int) throws " + RANGE);
        due.add("public int sector(int, int) throws " + RANGE);
        TreeSet<String> got = new TreeSet<>();
        for (Method method : SixtyFive.class.getDeclaredMethods()) {
            if (!Modifier.isPrivate(method.getModifiers())) {
                got.add(written(method));
            }
        }
        Check.same("the calls", String.join("\n", got), String.join("\n", due));
    }

    private static String written(Method method) {
        StringBuilder text = new StringBuilder(Modifier.toString(method.getModifiers()));
        text.append(' ').append(method.getReturnType().getName()).append(' ').append(method.getName());
        text.append('(').append(names(method.getParameterTypes(), ", ")).append(')');
        String thrown = names(method.getExceptionTypes(), " ");
        return (thrown.isEmpty() ? text : text.append(" throws ").append(thrown)).toString();
    }

    private static String names(Class<?>[] types, String between) {
        return String.join(between, Arrays.stream(types).map(Class::getName).toList());
    }

    private static void nothingElse() {
        Check.sentence("Nothing is promised beyond the answers and state changes described above");
        for (Field field : SixtyFive.class.getDeclaredFields()) {
            Check.equal(field.getName() + " is private", Modifier.isPrivate(field.getModifiers()) ? 1 : 0, 1);
            Check.equal(field.getName() + " is no state of all objects at once", isSharedState(field) ? 1 : 0, 0);
        }
    }

    private static boolean isSharedState(Field field) {
        return Modifier.isStatic(field.getModifiers()) && !Modifier.isFinal(field.getModifiers());
    }

    private static void theClassesInside() {
        Check.sentence("How the state is held inside the object is free");
        for (Class<?> inside : SixtyFive.class.getDeclaredClasses()) {
            int modifiers = inside.getModifiers();
            Check.equal(inside.getName() + " is static", Modifier.isStatic(modifiers) ? 1 : 0, 1);
            boolean isOpen = Modifier.isPublic(modifiers) || Modifier.isProtected(modifiers);
            Check.equal(inside.getName() + " is not open", isOpen ? 1 : 0, 0);
        }
    }
}
