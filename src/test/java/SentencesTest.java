import java.util.NoSuchElementException;
import java.util.regex.Pattern;

/** Promises 14 to 22: what is said, held against every row of folds, with a regular expression. */
public final class SentencesTest {
    private static final Pattern SENTENCE = Pattern.compile("s+fb?(cs+fb?)*");
    private static final String FOLDS = ".sfbc";
    private static final String[] ENDINGS = {"", "f", "sf"};

    public static void main(String[] args) {
        everyRow();
        numbersOfPhrases();
        whatIsSaid();
        throwsInOrder();
        Due.close("SentencesTest");
    }

    private static boolean isSentence(String said) {
        return SENTENCE.matcher(said).matches();
    }

    /** Every beginning of a sentence becomes one by one of these endings. */
    private static boolean isBeginning(String said) {
        for (String ending : ENDINGS) {
            if (isSentence(said + ending)) {
                return true;
            }
        }
        return false;
    }

    private static int wrongIn(String said) {
        for (int i = 0; i < said.length(); i++) {
            if (!isBeginning(said.substring(0, i + 1))) {
                return i;
            }
        }
        return isSentence(said) ? -1 : said.length();
    }

    private static int nextOf(String said) {
        int set = 0;
        for (int fold = 1; fold <= 4; fold++) {
            set |= isBeginning(said + FOLDS.charAt(fold)) ? 1 << fold : 0;
        }
        return set;
    }

    private static int fewestOf(String said) {
        if (isSentence(said)) {
            return 0;
        }
        int fewest = 99;
        for (int i = 0; i < said.length(); i++) {
            fewest = Math.min(fewest, 1 + fewestOf(said.substring(0, i) + said.substring(i + 1)));
        }
        return fewest;
    }

    private static void everyRow() {
        for (int length = 0; length <= 6; length++) {
            int rows = (int) Math.pow(5, length);
            for (int row = 0; row < rows; row++) {
                StringBuilder folds = new StringBuilder();
                for (int i = 0, rest = row; i < length; i++, rest /= 5) {
                    folds.append(FOLDS.charAt(rest % 5));
                }
                oneRow(folds.toString());
            }
        }
    }

    private static void oneRow(String folds) {
        NapkinSyntax x = new NapkinSyntax();
        Due.lay(x, 1, folds);
        String said = folds.replace(".", "");
        boolean isRight = isSentence(said);
        int phrases = isRight ? said.split("c").length : 0;
        int fewest = fewestOf(said);
        Object fewestDue = fewest < 99 ? fewest : "throws.NoSuchElementException";
        Due.is("15: wrong of " + folds, wrongIn(said), () -> x.wrong(1));
        Due.is("16: wrongAgain of " + folds, wrongIn(said), () -> x.wrongAgain(1));
        Due.is("17: isRight of " + folds, isRight, () -> x.isRight(1));
        Due.is("18: phrases of " + folds, phrases, () -> x.phrases(1));
        Due.is("20: next of " + folds, nextOf(said), () -> x.next(1));
        Due.is("21: fewest of " + folds, fewestDue, () -> x.fewest(1));
        Due.is("22: fewestAgain of " + folds, fewestDue, () -> x.fewestAgain(1));
        Due.is("28: isWell with " + folds, true, () -> x.isWell());
        Due.fails("19: a phrase more of " + folds, NoSuchElementException.class, () -> x.phraseOf(1, phrases, 0));
        Due.is("12: said by " + folds, said.length(), () -> x.tableOf(1, 1));
    }

    private static void numbersOfPhrases() {
        NapkinSyntax x = new NapkinSyntax();
        int[] colours = {3, 1, 2, 2, 0, 1, 0};
        int[] folds = {2, 0, 1, 1, 3, 1, 4};
        for (int i = 0; i < colours.length; i++) {
            x.napkin(colours[i]);
            if (folds[i] != 0) {
                x.fold(i, folds[i]);
            }
        }
        // Said: the swans 2 and 3, unfolded 1 between them, the fan 0, the boat 4.
        for (int napkin : new int[] {2, 1, 3, 0, 4}) {
            x.lay(napkin, 0);
        }
        phrase(x, 0, 2, 0, 4, 0);
        x.take(0);
        x.fold(0, 3);
        Due.fails("19: without a mood", NoSuchElementException.class, () -> x.phraseOf(0, 0, 0));

        NapkinSyntax y = new NapkinSyntax();
        int[] said = {1, 2, 4, 1, 2, 3};
        int[] coloured = {1, 1, 0, 3, 2, 2};
        for (int i = 0; i < said.length; i++) {
            y.napkin(coloured[i]);
            y.fold(i, said[i]);
            y.lay(i, 2);
        }
        Due.is("18: phrases", 2, () -> y.phrases(2));
        phraseOfTable2(y, 0, new int[] {1, 1, -1, 1});
        phraseOfTable2(y, 1, new int[] {1, 4, 5, 0});

        // A fan agrees with one of its swans only, not with those of another phrase.
        NapkinSyntax z = new NapkinSyntax();
        int[] row = {1, 1, 2, 4, 1, 2};
        int[] colour = {0, 3, 3, 1, 0, 3};
        for (int i = 0; i < row.length; i++) {
            z.napkin(colour[i]);
            z.fold(i, row[i]);
            z.lay(i, 2);
        }
        phraseOfTable2(z, 0, new int[] {2, 2, -1, 1});
        phraseOfTable2(z, 1, new int[] {1, 5, -1, 0});
    }

    private static void phrase(NapkinSyntax x, int table, int subjects, int mood, int object, int agrees) {
        Due.is("19: subjects", subjects, () -> x.phraseOf(table, 0, 0));
        Due.is("19: mood", mood, () -> x.phraseOf(table, 0, 1));
        Due.is("19: object", object, () -> x.phraseOf(table, 0, 2));
        Due.is("19: agrees", agrees, () -> x.phraseOf(table, 0, 3));
    }

    private static void phraseOfTable2(NapkinSyntax x, int phrase, int[] due) {
        for (int what = 0; what < due.length; what++) {
            int kind = what;
            Due.is("19: phraseOf(2, " + phrase + ", " + what + ")", due[what], () -> x.phraseOf(2, phrase, kind));
        }
    }

    private static void whatIsSaid() {
        NapkinSyntax x = new NapkinSyntax();
        Due.lay(x, 0, ".s.f");
        Due.is("14: said(0, 0)", 1, () -> x.said(0, 0));
        Due.is("14: said(0, 1)", 3, () -> x.said(0, 1));
        Due.fails("14: number 2", NoSuchElementException.class, () -> x.said(0, 2));
        Due.fails("14: number -1", NoSuchElementException.class, () -> x.said(0, -1));
        x.fold(0, 1);
        Due.is("14: folded on the table", 0, () -> x.said(0, 0));
        x.move(0, 0, 2);
        Due.is("14: in the order of the row", 1, () -> x.said(0, 0));
    }

    private static void throwsInOrder() {
        NapkinSyntax x = new NapkinSyntax();
        Due.lay(x, 0, "sf");
        for (int table : new int[] {-1, 3, Integer.MIN_VALUE, Integer.MAX_VALUE}) {
            Class<? extends RuntimeException> none = IndexOutOfBoundsException.class;
            Due.fails("14: said", none, () -> x.said(table, -1));
            Due.fails("15: wrong", none, () -> x.wrong(table));
            Due.fails("16: wrongAgain", none, () -> x.wrongAgain(table));
            Due.fails("17: isRight", none, () -> x.isRight(table));
            Due.fails("18: phrases", none, () -> x.phrases(table));
            Due.fails("19: phraseOf", none, () -> x.phraseOf(table, -1, -1));
            Due.fails("20: next", none, () -> x.next(table));
            Due.fails("21: fewest", none, () -> x.fewest(table));
            Due.fails("22: fewestAgain", none, () -> x.fewestAgain(table));
        }
        Due.fails("19: phrase before what", NoSuchElementException.class, () -> x.phraseOf(0, 1, 4));
        Due.fails("19: phrase -1", NoSuchElementException.class, () -> x.phraseOf(0, -1, 0));
        Due.fails("19: what 4", IllegalArgumentException.class, () -> x.phraseOf(0, 0, 4));
        Due.fails("19: what -1", IllegalArgumentException.class, () -> x.phraseOf(0, 0, -1));
        Due.fails("21: nothing said", NoSuchElementException.class, () -> x.fewest(1));
        Due.fails("22: nothing said", NoSuchElementException.class, () -> x.fewestAgain(1));
    }
}
