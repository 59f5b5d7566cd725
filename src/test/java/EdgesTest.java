import java.lang.reflect.InvocationTargetException;
import java.lang.reflect.Method;
import java.lang.reflect.Modifier;
import java.util.Arrays;
import java.util.Comparator;
import java.util.TreeSet;

/**
 * Each sentence of the document that names a boundary, tested by a method of its own. Such a method is named after its
 * promise (p07..) or after the terms (terms..); it stands in one of the classes below and is found by its name.
 */
public final class EdgesTest {
    private static final Class<?>[] ALL = {
        TextEdges.class, FaultEdges.class, ChangeEdges.class, OddsEdges.class, BestEdges.class, AdviceEdges.class,
        LearntEdges.class, MarkedEdges.class, SheetEdges.class, RefusalEdges.class
    };

    private EdgesTest() {
    }

    public static void main(String[] args) throws ReflectiveOperationException {
        TreeSet<String> promises = new TreeSet<>();
        int many = 0;
        for (Class<?> edges : ALL) {
            Method[] methods = edges.getDeclaredMethods();
            Arrays.sort(methods, Comparator.comparing(Method::getName));
            for (Method method : methods) {
                if (method.getName().matches("(p\\d\\d|terms)[A-Z]\\w*")) {
                    run(method);
                    promises.add(method.getName().substring(0, 3));
                    many++;
                }
            }
        }
        Check.during("EdgesTest");
        for (int n = 1; n <= 40; n++) {
            Check.dueTrue("promise " + n + " has an edge", promises.contains(String.format("p%02d", n)));
        }
        System.out.println(many + " edges, " + Check.asked() + " answers");
        Check.finish();
    }

    private static void run(Method method) throws ReflectiveOperationException {
        Check.during(method.getDeclaringClass().getSimpleName() + "." + method.getName());
        int before = Check.asked();
        Check.dueTrue("it is static, without parameters",
            Modifier.isStatic(method.getModifiers()) && method.getParameterCount() == 0);
        try {
            method.invoke(null);
        } catch (InvocationTargetException thrown) {
            thrown.getCause().printStackTrace(System.out);
            Check.dueTrue("nothing is thrown, but " + thrown.getCause(), false);
        }
        Check.dueTrue("it looks at an answer", Check.asked() > before + 1);
    }
}
