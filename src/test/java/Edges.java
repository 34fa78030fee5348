import java.lang.reflect.InvocationTargetException;
import java.lang.reflect.Method;
import java.util.Map;
import java.util.TreeMap;

/**
 * Runs each method of a class that takes and answers nothing as a test of its own: one boundary of the document.
 * With -Dedge=NAME it runs that one alone.
 */
final class Edges {
    private Edges() {
    }

    static void run(Class<?> cases) {
        String only = System.getProperty("edge", "");
        Map<String, Method> byName = new TreeMap<>();
        for (Method m : cases.getDeclaredMethods()) {
            boolean wanted = only.isEmpty() || m.getName().equals(only);
            if (wanted && m.getParameterCount() == 0 && m.getReturnType() == void.class) {
                byName.put(m.getName(), m);
            }
        }
        int failed = 0;
        for (Method m : byName.values()) {
            if (!holds(m)) {
                failed++;
                System.out.println("edge " + cases.getSimpleName() + "." + m.getName() + " does not hold");
            }
        }
        System.out.println(byName.size() + " edges, " + failed + " do not hold");
        Due.done();
    }

    private static boolean holds(Method edge) {
        int asked = Due.asked();
        int wrong = Due.wrong();
        try {
            edge.setAccessible(true);
            edge.invoke(null);
        } catch (InvocationTargetException e) {
            Due.is(edge.getName() + " threw " + e.getCause(), 1, 0);
        } catch (IllegalAccessException e) {
            Due.is(edge.getName() + " cannot be run", 1, 0);
        }
        if (Due.asked() == asked) {
            Due.is(edge.getName() + " asks nothing", 1, 0);
        }
        return Due.wrong() == wrong;
    }
}
