/** Promises 12 and 15 to 22: every row of up to six napkins, held against Grammar. */
public final class SentencesTest {
    private static final String NONE = "throws.NoSuchElementException";

    public static void main(String[] args) {
        rowsThatBeginWith("");
        Due.close("SentencesTest");
    }

    private static void rowsThatBeginWith(String folds) {
        hold(folds);
        for (int fold = 0; fold <= 4 && folds.length() < 6; fold++) {
            rowsThatBeginWith(folds + Grammar.FOLDS.charAt(fold));
        }
    }

    private static void hold(String folds) {
        String said = folds.replace(".", "");
        int phrases = Grammar.phrasesIn(said);
        Object fewest = Grammar.fewestOf(said) <= said.length() ? Grammar.fewestOf(said) : NONE;
        Due.under("the row " + folds + " | ");
        Probe.saying(1, folds).is(said.length(), "tableOf", 1, 1)
            .is(Grammar.wrongIn(said), "wrong", 1).is(Grammar.wrongIn(said), "wrongAgain", 1)
            .is(Grammar.isSentence(said), "isRight", 1).is(phrases, "phrases", 1).is(NONE, "phraseOf", 1, phrases, 0)
            .is(Grammar.nextOf(said), "next", 1).is(fewest, "fewest", 1).is(fewest, "fewestAgain", 1).is(true, "isWell");
    }
}
