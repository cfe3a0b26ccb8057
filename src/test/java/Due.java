import java.util.concurrent.Callable;

/** Counts answers that are not as due; each test class has one main that ends with close(). */
final class Due {
    private static final int TOLD = 30;
    private static int looked = 0;
    private static int wrong = 0;
    private static String heading = "";

    private Due() {
    }

    /** Told ahead of each call that is not as due, from now on. */
    static void under(String words) {
        heading = words;
    }

    static void is(String call, Object want, Callable<?> got) {
        looked++;
        String answer = answerOf(got);
        if (!answer.equals(String.valueOf(want))) {
            wrong++;
            if (wrong <= TOLD) {
                System.out.println(heading + call + " answered " + answer + ", due is " + want);
            }
        }
    }

    /** An answer as a text; an exception counts by the name of its very class. */
    static String answerOf(Callable<?> got) {
        try {
            return String.valueOf(got.call());
        } catch (Exception thrown) {
            return "throws." + thrown.getClass().getSimpleName();
        }
    }

    static void close(String test) {
        System.out.println(test + ": " + looked + " answers, " + wrong + " not as due");
        if (wrong != 0 || looked == 0) {
            System.exit(1);
        }
    }
}
