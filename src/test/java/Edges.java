import java.lang.reflect.Constructor;
import java.lang.reflect.Method;
import java.util.ArrayList;
import java.util.Comparator;
import java.util.List;

/** Runs the tests of a class that each say which words of the document they hold to, in the document's order. */
final class Edges {
    private Edges() {
    }

    static List<Method> of(Class<? extends KneeTest> tests, Document document) {
        List<Method> methods = new ArrayList<>();
        for (Method m : tests.getDeclaredMethods()) {
            if (m.isAnnotationPresent(Says.class)) methods.add(m);
        }
        methods.sort(Comparator.comparing((Method m) -> place(m, document)).thenComparing(Method::getName));
        return methods;
    }

    private static int place(Method m, Document document) {
        Says says = m.getAnnotation(Says.class);
        return document.place(says.promise(), says.value());
    }

    static void run(Class<? extends KneeTest> tests) throws Exception {
        Suite suite = new Suite(tests.getSimpleName());
        Document document = new Document();
        Constructor<? extends KneeTest> made = tests.getDeclaredConstructor();
        for (Method m : of(tests, document)) {
            Says says = m.getAnnotation(Says.class);
            suite.run(m.getName() + " ('" + says.value() + "')", () -> {
                document.mustSayOnce(says.promise(), says.value());
                m.invoke(made.newInstance());
            });
        }
        suite.close();
    }
}
