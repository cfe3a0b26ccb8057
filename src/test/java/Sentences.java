import java.lang.reflect.Method;

/** Runs the tests of a class that name the sentences which they hold the class to. */
final class Sentences {
    private Sentences() {
    }

    static void run(Class<?> tests) throws ReflectiveOperationException {
        Document document = new Document();
        for (Method test : tests.getDeclaredMethods()) {
            Says says = test.getAnnotation(Says.class);
            if (says == null) {
                continue;
            }
            Due.under((says.promise() == 0 ? "Terms" : "Promise " + says.promise()) + ": " + says.words() + " | ");
            Due.is("these words stand in the document", true, () -> document.has(says.promise(), says.words()));
            test.setAccessible(true);
            test.invoke(null);
        }
        Due.close(tests.getSimpleName());
    }
}
