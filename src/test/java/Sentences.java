import java.lang.reflect.Method;

/** Runs the tests of a class that name the sentences which they hold the class to. */
final class Sentences {
    private Sentences() {
    }

    static void run(Class<?> tests) throws ReflectiveOperationException {
        Document document = new Document();
        for (Method test : tests.getDeclaredMethods()) {
            Says says = test.getAnnotation(Says.class);
            if (says == null) {
                continue;
            }
            Due.under(partOf(says) + ": " + says.words() + " | ");
            Due.is("these words stand in the document", true, () -> document.has(partOf(says), says.words()));
            test.setAccessible(true);
            test.invoke(null);
        }
        Due.close(tests.getSimpleName());
    }

    static String partOf(Says says) {
        return says.promise() > 0 ? "Promise " + says.promise() : says.part();
    }
}
