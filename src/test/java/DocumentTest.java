import java.lang.reflect.Method;
import java.util.ArrayList;
import java.util.List;

/** That each sentence of "Terms" and of the promises has a test that names it. */
public final class DocumentTest {
    private static final Class<?>[] TESTS = {
        TermsTest.class, TermsOfCommandsTest.class, TermsOfChangesTest.class, PromisesOfNapkinsTest.class,
        PromisesOfSentencesTest.class, PromisesOfDoubtTest.class, PromisesOfCommandsTest.class, PromisesOfAccountsTest.class
    };

    public static void main(String[] args) {
        Document document = new Document();
        List<Says> named = named();
        int parts = 0;
        for (int promise : document.promises()) {
            parts++;
            for (String sentence : document.sentencesOf(promise)) {
                Due.is((promise == 0 ? "Terms" : "Promise " + promise) + ": " + sentence + " | has a test", true,
                    () -> isNamed(named, promise, sentence));
            }
        }
        int found = parts;
        Due.is("the document has \"Terms\" and 41 promises", 42, () -> found);
        Due.close("DocumentTest");
    }

    private static List<Says> named() {
        List<Says> named = new ArrayList<>();
        for (Class<?> tests : TESTS) {
            for (Method test : tests.getDeclaredMethods()) {
                Says says = test.getAnnotation(Says.class);
                if (says != null) {
                    named.add(says);
                }
            }
        }
        return named;
    }

    private static boolean isNamed(List<Says> named, int promise, String sentence) {
        for (Says says : named) {
            if (says.promise() == promise && (sentence.contains(says.words()) || says.words().contains(sentence))) {
                return true;
            }
        }
        return false;
    }
}
