import java.lang.reflect.InvocationTargetException;
import java.lang.reflect.Method;
import java.util.ArrayList;
import java.util.Arrays;
import java.util.Comparator;
import java.util.List;

/** The tests of single sentences: where they stand, and how they are run. */
final class Sentences {
    static final Class<?>[] ALL = {TermsSentencesTest.class, PeopleSentencesTest.class, WorksSentencesTest.class,
        SeasonSentencesTest.class, EveningSentencesTest.class, OrdersSentencesTest.class, BooksSentencesTest.class};

    private Sentences() {
    }

    static List<Method> of(Class<?> tests) {
        List<Method> all = new ArrayList<>();
        for (Method method : tests.getDeclaredMethods()) {
            if (method.isAnnotationPresent(Says.class)) {
                method.setAccessible(true);
                all.add(method);
            }
        }
        all.sort(Comparator.comparing(Method::getName));
        return all;
    }

    static void run(Class<?> tests) throws ReflectiveOperationException {
        Check.due(true, tests.getSimpleName() + " is looked at by SentencesTest",
            () -> Arrays.asList(ALL).contains(tests));
        for (Method test : of(tests)) {
            Check.in(test.getName());
            try {
                test.invoke(null);
            } catch (InvocationTargetException e) {
                Check.due("an end of the test", "the test itself", () -> e.getCause());
                e.getCause().printStackTrace(System.out);
            }
        }
        Check.in("");
        Check.finish(tests.getSimpleName());
    }
}
