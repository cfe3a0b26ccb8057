import java.util.regex.Pattern;

/** The sentences, told a second time: what is said is a text of the letters s, f, b and c. */
final class Grammar {
    static final String FOLDS = ".sfbc";
    private static final Pattern SENTENCE = Pattern.compile("s+fb?(cs+fb?)*");

    private Grammar() {
    }

    static boolean isSentence(String said) {
        return SENTENCE.matcher(said).matches();
    }

    /** Every beginning of a sentence becomes one by nothing more, by a fan, or by a swan and a fan. */
    private static boolean isBeginning(String said) {
        return isSentence(said) || isSentence(said + "f") || isSentence(said + "sf");
    }

    static int wrongIn(String said) {
        for (int i = 0; i < said.length(); i++) {
            if (!isBeginning(said.substring(0, i + 1))) {
                return i;
            }
        }
        return isSentence(said) ? -1 : said.length();
    }

    static int phrasesIn(String said) {
        return isSentence(said) ? said.split("c").length : 0;
    }

    static int nextOf(String said) {
        int set = 0;
        for (int fold = 1; fold <= 4; fold++) {
            set |= isBeginning(said + FOLDS.charAt(fold)) ? 1 << fold : 0;
        }
        return set;
    }

    /** The fewest letters to leave out, more than there are if none are enough. */
    static int fewestOf(String said) {
        if (isSentence(said)) {
            return 0;
        }
        int fewest = said.length() + 1;
        for (int i = 0; i < said.length(); i++) {
            String rest = said.substring(0, i) + said.substring(i + 1);
            int more = fewestOf(rest);
            fewest = more > rest.length() ? fewest : Math.min(fewest, 1 + more);
        }
        return fewest;
    }
}
