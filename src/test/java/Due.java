import java.util.concurrent.Callable;

/** Counts answers that are not as due; each test class has one main that ends with close(). */
final class Due {
    private static final int TOLD = 30;
    private static int looked = 0;
    private static int wrong = 0;

    private Due() {
    }

    static void is(String call, Object want, Callable<?> got) {
        looked++;
        String answer = answerOf(got);
        if (!answer.equals(String.valueOf(want))) {
            wrong++;
            if (wrong <= TOLD) {
                System.out.println(call + " answered " + answer + ", due is " + want);
            }
        }
    }

    static void fails(String call, Class<? extends RuntimeException> want, Callable<?> got) {
        is(call, "throws." + want.getSimpleName(), got);
    }

    /** The refusal of a call, and what is kept of it. */
    static void refuses(String call, NapkinSyntax x, int reason, int detail, Callable<?> got) {
        fails(call, UnsupportedOperationException.class, got);
        is(call + ": its reason", reason, () -> x.refusal(false, false));
        is(call + ": its detail", detail, () -> x.refusal(false, true));
        fails(call + ": no cause", java.util.NoSuchElementException.class, () -> x.refusal(true, false));
        fails(call + ": no detail of a cause", java.util.NoSuchElementException.class, () -> x.refusal(true, true));
    }

    /** An answer as a text; an exception counts by the name of its very class. */
    static String answerOf(Callable<?> got) {
        try {
            return String.valueOf(got.call());
        } catch (Exception thrown) {
            return "throws." + thrown.getClass().getSimpleName();
        }
    }

    static void type(NapkinSyntax x, String text) {
        for (int i = 0; i < text.length(); i++) {
            x.type(text.charAt(i));
        }
    }

    static String line(NapkinSyntax x, int length) {
        StringBuilder line = new StringBuilder();
        for (int i = 0; i < length; i++) {
            line.append(x.written(i));
        }
        return line.toString();
    }

    /** Lets a napkin come for each letter, folds it (s, f, b, c, or . for unfolded) and lays it. */
    static void lay(NapkinSyntax x, int table, String folds) {
        for (int i = 0; i < folds.length(); i++) {
            int napkin = x.napkin(0);
            int fold = ".sfbc".indexOf(folds.charAt(i));
            if (fold > 0) {
                x.fold(napkin, fold);
            }
            x.lay(napkin, table);
        }
    }

    static void close(String test) {
        System.out.println(test + ": " + looked + " answers, " + wrong + " not as due");
        if (wrong != 0 || looked == 0) {
            System.exit(1);
        }
    }
}
