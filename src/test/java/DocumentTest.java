import java.lang.reflect.Method;
import java.util.ArrayList;
import java.util.List;
import java.util.Set;

/** That each sentence of the document has tests that name all of its words. */
public final class DocumentTest {
    private static final Class<?>[] TESTS = {
        WhatItIsTest.class, TermsTest.class, TermsOfCommandsTest.class, TermsOfChangesTest.class, PromisesOfNapkinsTest.class,
        PromisesOfSentencesTest.class, PromisesOfDoubtTest.class, PromisesOfCommandsTest.class, PromisesOfAccountsTest.class
    };

    /** What no test can hold the class to. */
    private static final Set<String> FREE = Set.of(
        "what later calls answer is free.",
        "How the state is held inside the object is free, as are the speed of each call, the text of toString and the behaviour of "
            + "equals and hashCode.",
        "Use of one object from several threads at once is not promised to be safe.",
        "Nothing is promised beyond the answers and state changes described above, and nothing about an object after its 512th call.");

    private static final String MARK = "_";

    /** What need not be named: what stands ahead of a parameter or a condition, and signs between words. */
    private static final String AHEAD = "^(- `what`:|- |Throws `\\w+`)";
    private static final String SIGNS = "[ ,.;:" + MARK + "]+";

    public static void main(String[] args) {
        Document document = new Document();
        Due.is("the parts of the document", partsThatAreKnown(), () -> new ArrayList<>(document.parts()));
        List<Says> named = named();
        for (String part : document.parts()) {
            String text = document.textOf(part);
            String marked = marked(part, text, named);
            // Each line of the face is held by FaceTest.
            for (String sentence : part.equals("The public face") ? List.<String>of() : document.sentencesOf(part)) {
                int start = text.indexOf(sentence);
                Due.is(part + ": " + sentence + " | what no test names", "", () -> FREE.contains(sentence) ? ""
                    : marked.substring(start, start + sentence.length()).replaceAll(AHEAD, "").replaceAll(SIGNS, ""));
            }
        }
        Due.close("DocumentTest");
    }

    private static List<String> partsThatAreKnown() {
        List<String> parts = new ArrayList<>(List.of("What it is", "The public face", "Terms"));
        for (int promise = 1; promise <= 41; promise++) {
            parts.add("Promise " + promise);
        }
        parts.add("Not promised");
        return parts;
    }

    private static List<Says> named() {
        List<Says> named = new ArrayList<>();
        for (Class<?> tests : TESTS) {
            for (Method test : tests.getDeclaredMethods()) {
                Says says = test.getAnnotation(Says.class);
                if (says != null) {
                    named.add(says);
                }
            }
        }
        return named;
    }

    /** The text of a part, all that a test names changed to MARK. */
    private static String marked(String part, String text, List<Says> named) {
        StringBuilder marked = new StringBuilder(text);
        for (Says says : named) {
            int length = says.words().length();
            int start = Sentences.partOf(says).equals(part) ? text.indexOf(says.words()) : -1;
            while (start >= 0) {
                marked.replace(start, start + length, MARK.repeat(length));
                start = text.indexOf(says.words(), start + 1);
            }
        }
        return marked.toString();
    }
}
