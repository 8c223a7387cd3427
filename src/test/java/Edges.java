import java.lang.reflect.InvocationTargetException;
import java.lang.reflect.Method;
import java.util.ArrayList;
import java.util.Comparator;
import java.util.List;

/** Runs the tests of a class that name their sentences, and tells the sentences that do not hold. */
final class Edges {
    /** The classes whose tests name sentences. */
    static final List<Class<?>> ALL =
        List.of(PlanEdgesTest.class, ActsEdgesTest.class, MendingEdgesTest.class, AskedEdgesTest.class);

    private Edges() {
    }

    static List<Method> testsOf(Class<?> tests) {
        List<Method> found = new ArrayList<>();
        for (Method m : tests.getDeclaredMethods()) {
            if (m.getAnnotation(Sentence.class) != null) {
                found.add(m);
            }
        }
        found.sort(Comparator.comparing(Method::getName));
        return found;
    }

    static void run(Class<?> tests) {
        int failed = 0;
        int ran = 0;
        for (Method m : testsOf(tests)) {
            int before = Desks.wrong;
            try {
                m.invoke(null);
            } catch (InvocationTargetException | IllegalAccessException e) {
                Desks.due(m.getName(), e.getCause() == null ? e : e.getCause(), "an end");
            }
            ran++;
            if (Desks.wrong > before) {
                Sentence s = m.getAnnotation(Sentence.class);
                System.out.println("FAILED " + m.getName() + ": promise " + s.promise() + ", \"" + s.words() + "\"");
                failed++;
            }
        }
        System.out.println(failed == 0 && ran > 0 ? "all " + ran + " sentences hold" : failed + " do not hold");
        if (failed > 0 || ran == 0) {
            System.exit(1);
        }
    }
}
