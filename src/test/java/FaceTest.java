import java.lang.management.ManagementFactory;
import java.lang.reflect.Constructor;
import java.lang.reflect.Field;
import java.lang.reflect.Method;
import java.lang.reflect.Modifier;
import java.util.Set;
import java.util.TreeSet;

/** The document's face and no more, no state outside the objects, and the room that calls take. */
final class FaceTest {
    private static final Checks checks = new Checks("FaceTest");

    public static void main(String[] args) {
        onlyTheFaceIsOpen();
        noStateOutsideTheObjects();
        objectsDoNotShareState();
        callsMakeNoObjects();
        checks.end();
    }

    private static void onlyTheFaceIsOpen() {
        Set<String> open = new TreeSet<>();
        Set<String> hidden = new TreeSet<>();
        for (Method method : PatternMachine.class.getDeclaredMethods()) {
            if (Modifier.isPrivate(method.getModifiers())) {
                hidden.add(method.getName());
            } else {
                open.add(method.getName());
                checks.equal(method + " is public", true, Modifier.isPublic(method.getModifiers()));
            }
        }
        checks.equal("methods", Set.of("type", "wipe", "compile", "text", "clear", "find", "matches", "group", "count",
                "replace", "piece", "character", "look"), open);
        hidden.retainAll(open);
        checks.equal("private methods with the name of a public one", Set.of(), hidden);
        for (Constructor<?> constructor : PatternMachine.class.getDeclaredConstructors()) {
            checks.equal("parameters of " + constructor, 0, constructor.getParameterCount());
        }
        checks.equal("final", true, Modifier.isFinal(PatternMachine.class.getModifiers()));
    }

    private static void noStateOutsideTheObjects() {
        for (Field field : PatternMachine.class.getDeclaredFields()) {
            checks.equal(field + " is private", true, Modifier.isPrivate(field.getModifiers()));
        }
        checkStatics(PatternMachine.class);
        for (Class<?> inside : PatternMachine.class.getDeclaredClasses()) {
            checks.equal(inside + " is static", true, Modifier.isStatic(inside.getModifiers()));
            checkStatics(inside);
        }
    }

    private static void checkStatics(Class<?> owner) {
        for (Field field : owner.getDeclaredFields()) {
            if (Modifier.isStatic(field.getModifiers())) {
                checks.equal(field + " is a constant", true,
                        Modifier.isFinal(field.getModifiers()) && field.getType().isPrimitive());
            }
        }
    }

    private static void objectsDoNotShareState() {
        PatternMachine x = Checks.machine("(a)b", "cab");
        PatternMachine y = Checks.machine("c", "xc");
        x.find(0);
        y.find(0);
        checks.equal("the first one", "1-3 1-2", Checks.caught(x));
        checks.equal("the second one", "1-2", Checks.caught(y));
    }

    private static void callsMakeNoObjects() {
        com.sun.management.ThreadMXBean bean = (com.sun.management.ThreadMXBean) ManagementFactory.getThreadMXBean();
        dearCalls(new PatternMachine());
        long before = bean.getThreadAllocatedBytes(Thread.currentThread().getId());
        PatternMachine x = new PatternMachine();
        long made = bean.getThreadAllocatedBytes(Thread.currentThread().getId());
        dearCalls(x);
        long after = bean.getThreadAllocatedBytes(Thread.currentThread().getId());
        checks.equal("an object is small", true, made - before < 65_536);
        checks.equal("calls make next to nothing", true, after - made < 16_384);
    }

    private static void dearCalls(PatternMachine x) {
        Checks.addText(x, "aaaaaaaaaaaaaaaaaaaaaaaaaaaaaaaaaaaaaaaa");
        Checks.compile(x, "(?:(?:(?:(?:(a*)*)*)*)*)*b|a", 0);
        for (int i = 0; i < 100; i++) {
            x.count();
            x.piece(i % 40, -1);
            x.find(0);
            x.matches();
        }
    }
}
