import java.util.NoSuchElementException;

/** Promises 14 to 22, sentence by sentence: what is said. SentencesTest looks at every row of up to six napkins. */
public final class PromisesOfSentencesTest {
    private static final Class<IndexOutOfBoundsException> NO_SUCH_ONE = IndexOutOfBoundsException.class;
    private static final Class<IllegalArgumentException> NO_SUCH_NUMBER = IllegalArgumentException.class;
    private static final Class<NoSuchElementException> NOTHING_THERE = NoSuchElementException.class;
    private static final Object EACH = World.EACH;

    /** Table 0 says the two phrases of napkins 0 and 1, and 3, 4 and 5; table 1 a swan; table 2 nothing, with a napkin on it. */
    private static final World ALL_SAY = new World("new 1;new 1;new 0;new 2;new 3;new 2;new 0;new 0;fold 0s;fold 1f;fold 2c;fold 3s;"
        + "fold 4f;fold 5b;fold 6s;save;lay 0 0;lay 1 0;lay 2 0;lay 3 0;lay 4 0;lay 5 0;lay 6 1;lay 7 2;stain 1+3;read 0");
    /** Table 2 is full and says a swan, a mood and a swan. */
    private static final World WRONG = new World("new 0;new 0;new 0;new 0;new 0;new 0;fold 1s;fold 2f;fold 4s;"
        + "save;lay 0 2;lay 1 2;lay 2 2;lay 3 2;lay 4 2;lay 5 2");

    /** What is said, where it goes wrong, the folds that could be said next, and the fewest to unfold, -1 if none are enough. */
    private static final Object[][] ROWS = {
        {"", 0, 2, -1}, {".", 0, 2, -1}, {"......", 0, 2, -1},
        {"s", 1, 6, -1}, {"ss", 2, 6, -1}, {"ssssss", 6, 6, -1}, {"s....s", 2, 6, -1},
        {"f", 0, 0, -1}, {"b", 0, 0, -1}, {"c", 0, 0, -1}, {"ffffff", 0, 0, -1}, {"fs", 0, 0, -1}, {".....c", 0, 0, -1},
        {"sf", -1, 24, 0}, {"s....f", -1, 24, 0}, {"sssssf", -1, 24, 0}, {"sfb", -1, 16, 0}, {"ssssfb", -1, 16, 0},
        {"sb", 1, 0, -1}, {"sc", 1, 0, -1}, {"sbf", 1, 0, 1}, {"sssssc", 5, 0, -1}, {"sssssb", 5, 0, -1},
        {"sff", 2, 0, 1}, {"sfs", 2, 0, 1}, {"sfbb", 3, 0, 1}, {"sfbf", 3, 0, 1}, {"sfbs", 3, 0, 1}, {".s.f.s", 2, 0, 1},
        {"sfc", 3, 2, 1}, {"sfbc", 4, 2, 1}, {"sfcs", 4, 6, 2}, {"sfcss", 5, 6, 3}, {"sfbcss", 6, 6, 3}, {"sssfbc", 6, 2, 1},
        {"sfcsf", -1, 24, 0}, {"sfbcsf", -1, 24, 0}, {"sfcsfb", -1, 16, 0}, {"ssfcsf", -1, 24, 0}, {"sfcssf", -1, 24, 0},
        {"sfcsfc", 6, 2, 1}, {"sfcsfs", 5, 0, 1}, {"sfcsff", 5, 0, 1}, {"sfccsf", 3, 0, 1}, {"sfcf", 3, 0, 2}, {"sfcb", 3, 0, 1},
        {"csf", 0, 0, 1}, {"cccsf.", 0, 0, 3}, {"bbbbsf", 0, 0, 4}, {"ffffsf", 0, 0, 4}, {"ccccsf", 0, 0, 4}, {"sbbbbf", 1, 0, 4},
        {"sfffff", 2, 0, 4}, {"sfssss", 2, 0, 4}, {"sfsfsf", 2, 0, 2}, {"fsfcsf", 0, 0, 1}, {"bsbfbc", 0, 0, 3}
    };

    public static void main(String[] args) throws ReflectiveOperationException {
        Sentences.run(PromisesOfSentencesTest.class);
    }

    private static void everyRow(String call, int column) {
        for (Object[] row : ROWS) {
            for (int table = 0; table <= 2; table++) {
                Object due = row[column].equals(-1) && column == 3 ? "throws.NoSuchElementException" : row[column];
                Probe.saying(table, row[0].toString()).is(due, call, table);
            }
        }
    }

    private static void noSuchTable(String call, Object... behindTable) {
        Object[] arguments = new Object[behindTable.length + 1];
        arguments[0] = EACH;
        System.arraycopy(behindTable, 0, arguments, 1, behindTable.length);
        World.NONE_CAME.failsForEach(Probe.outside(0, 2), NO_SUCH_ONE, call, arguments);
        ALL_SAY.failsForEach(Probe.outside(0, 2), NO_SUCH_ONE, call, arguments);
    }

    /** Tables 0, 1 and 2 of ALL_SAY answer these, in their turn. */
    private static void tablesAnswer(String call, Object first, Object second, Object third) {
        ALL_SAY.ready().is(first, call, 0).is(second, call, 1).is(third, call, 2);
    }

    @Says(promise = 14, words = "Returns a napkin that a table says.")
    static void napkinThatIsSaid() {
        ALL_SAY.ready().is(0, "said", 0, 0).is(2, "said", 0, 2).is(6, "said", 1, 0);
        WRONG.ready().is(1, "said", 2, 0).is(2, "said", 2, 1).is(4, "said", 2, 2);
    }

    @Says(promise = 14, words = "`table`: the table")
    static void firstAndLastTableSay() {
        Probe.saying(0, "s").is(0, "said", 0, 0);
        Probe.saying(2, "s").is(0, "said", 2, 0);
    }

    @Says(promise = 14, words = "`number`: its number among what is said, from 0")
    static void firstAndLastNumber() {
        ALL_SAY.ready().is(0, "said", 0, 0).is(5, "said", 0, 5);
        Probe.saying(1, ".....f").is(5, "said", 1, 0);
    }

    @Says(promise = 14, words = "Returns the napkin.")
    static void saidTellsTheNapkinNotThePlace() {
        Probe.after("new 0;new 0;new 0;fold 2s;fold 0f;lay 2 1;lay 1 1;lay 0 1").is(2, "said", 1, 0).is(0, "said", 1, 1);
    }

    @Says(promise = 14, words = "Throws `IndexOutOfBoundsException` if there is no such table")
    static void noSuchTableSays() {
        noSuchTable("said", 0);
        noSuchTable("said", -1);
    }

    @Says(promise = 14, words = "Throws `NoSuchElementException` if there is no such number")
    static void noSuchNumberSaid() {
        World.NONE_CAME.fails(NOTHING_THERE, "said", 0, 0);
        ALL_SAY.failsForEach(Probe.outside(0, 5), NOTHING_THERE, "said", 0, EACH);
        ALL_SAY.failsForEach(Probe.outside(0, 0), NOTHING_THERE, "said", 1, EACH);
        ALL_SAY.fails(NOTHING_THERE, "said", 2, 0);
        WRONG.failsForEach(Probe.outside(0, 2), NOTHING_THERE, "said", 2, EACH);
    }

    @Says(promise = 15, words = "Returns where a table goes wrong: napkin by napkin.")
    static void wrongOfRows() {
        everyRow("wrong", 1);
    }

    @Says(promise = 15, words = "It is the number, among what is said, of the first one with which no sentence goes on")
    static void wrongCountsWhatIsSaidAlone() {
        Probe.saying(0, "..sb").is(1, "wrong", 0);
        Probe.saying(0, ".s.f.f").is(2, "wrong", 0);
        Probe.saying(0, ".....b").is(0, "wrong", 0);
    }

    @Says(promise = 15, words = "or how many are said if what is said could go on to a sentence, but is none.")
    static void wrongAtTheEnd() {
        Probe.saying(0, "").is(0, "wrong", 0);
        Probe.saying(0, "..s..").is(1, "wrong", 0);
        Probe.saying(0, "sssfbc").is(6, "wrong", 0);
        Probe.saying(0, "ssssss").is(6, "wrong", 0);
    }

    @Says(promise = 15, words = "`table`: the table")
    static void tablesThatGoWrong() {
        tablesAnswer("wrong", -1, 1, 0);
    }

    @Says(promise = 15, words = "Returns the number, -1 if the table is right.")
    static void wrongNowhere() {
        Probe.saying(0, "sf").is(-1, "wrong", 0).make("open 0").is(0, "wrong", 0).make("fold 0s").is(-1, "wrong", 0);
    }

    @Says(promise = 15, words = "Throws `IndexOutOfBoundsException` if there is no such table")
    static void noSuchTableGoesWrong() {
        noSuchTable("wrong");
    }

    @Says(promise = 16, words = "Returns the same by a second way: phrase by phrase, between crowns.")
    static void wrongAgainOfRows() {
        everyRow("wrongAgain", 1);
    }

    @Says(promise = 16, words = "`table`: the table")
    static void tablesThatGoWrongAgain() {
        tablesAnswer("wrongAgain", -1, 1, 0);
    }

    @Says(promise = 16, words = "Returns the number, -1 if the table is right.")
    static void wrongAgainNowhere() {
        Probe.saying(0, "sfcsf").is(-1, "wrongAgain", 0).make("open 3").is(3, "wrongAgain", 0).make("open 4").is(3, "wrongAgain", 0);
    }

    @Says(promise = 16, words = "Throws `IndexOutOfBoundsException` if there is no such table")
    static void noSuchTableGoesWrongAgain() {
        noSuchTable("wrongAgain");
    }

    @Says(promise = 17, words = "Tells whether a table is right.")
    static void rightRows() {
        for (Object[] row : ROWS) {
            Probe.saying(0, row[0].toString()).is(row[1].equals(-1), "isRight", 0);
        }
    }

    @Says(promise = 17, words = "`table`: the table")
    static void tablesThatAreRight() {
        tablesAnswer("isRight", true, false, false);
        Probe.saying(2, "sf").is(true, "isRight", 2).is(false, "isRight", 0).is(false, "isRight", 1);
    }

    @Says(promise = 17, words = "Returns whether it is.")
    static void rightAndThenNot() {
        Probe.saying(0, "sf").is(true, "isRight", 0).make("take 1").is(false, "isRight", 0).make("lay 1 0").is(true, "isRight", 0)
            .make("move 0 10").is(false, "isRight", 0);
    }

    @Says(promise = 17, words = "Throws `IndexOutOfBoundsException` if there is no such table")
    static void noSuchTableIsRight() {
        noSuchTable("isRight");
    }

    @Says(promise = 18, words = "Returns how many phrases a table has.")
    static void phrasesOfRows() {
        for (Object[] row : ROWS) {
            boolean isRight = row[1].equals(-1);
            int due = !isRight ? 0 : row[0].toString().contains("c") ? 2 : 1;
            Probe.saying(0, row[0].toString()).is(due, "phrases", 0);
        }
    }

    @Says(promise = 18, words = "`table`: the table")
    static void tablesWithPhrases() {
        tablesAnswer("phrases", 2, 0, 0);
        Probe.saying(2, "sf").is(1, "phrases", 2).is(0, "phrases", 0);
    }

    @Says(promise = 18, words = "Returns how many, 0 if it is not right.")
    static void noPhrasesIfNotRight() {
        Probe.saying(0, "sfcsfc").is(0, "phrases", 0).make("open 5").is(2, "phrases", 0).make("open 3").is(0, "phrases", 0);
    }

    @Says(promise = 18, words = "Throws `IndexOutOfBoundsException` if there is no such table")
    static void noSuchTableHasPhrases() {
        noSuchTable("phrases");
    }

    private static void phrase(Probe x, int table, int phrase, int... due) {
        for (int what = 0; what <= 3; what++) {
            x.is(due[what], "phraseOf", table, phrase, what);
        }
    }

    @Says(promise = 19, words = "Returns a number of a phrase of a table.")
    static void numbersOfPhrases() {
        Probe x = ALL_SAY.ready();
        phrase(x, 0, 0, 1, 1, -1, 1);
        phrase(x, 0, 1, 1, 4, 5, 0);
    }

    @Says(promise = 19, words = "`table`: the table")
    static void firstAndLastTableHavePhrases() {
        Probe x = new Probe().lay(2, ".sf", 0, 1, 2).lay(0, "ssfb", 2, 3, 3);
        phrase(x, 0, 0, 2, 5, 6, 1);
        phrase(x, 2, 0, 1, 2, -1, 0);
    }

    @Says(promise = 19, words = "`phrase`: the phrase, from 0")
    static void firstAndLastPhrase() {
        Probe x = Probe.saying(1, "sfbcsf", 0, 1, 0, 2, 2, 2);
        phrase(x, 1, 0, 1, 1, 2, 0);
        phrase(x, 1, 1, 1, 5, -1, 1);
    }

    @Says(promise = 19, words = "0 for how many subjects it has")
    static void fewestAndMostSubjects() {
        Probe.saying(0, "sf").is(1, "phraseOf", 0, 0, 0);
        Probe.saying(0, "sssssf").is(5, "phraseOf", 0, 0, 0).is(5, "phraseOf", 0, 0, 1);
        Probe.saying(0, "sfcssf").is(2, "phraseOf", 0, 1, 0);
        Probe.saying(0, "s.s.f.").is(2, "phraseOf", 0, 0, 0).is(4, "phraseOf", 0, 0, 1);
    }

    @Says(promise = 19, words = "1 for the napkin of its mood, 2 for that of its object, -1 without one")
    static void moodsAndObjects() {
        Probe.after("new 0;new 0;new 0;fold 2s;fold 1f;fold 0b;lay 2 0;lay 1 0").is(1, "phraseOf", 0, 0, 1).is(-1, "phraseOf", 0, 0, 2)
            .make("lay 0 0").is(1, "phraseOf", 0, 0, 1).is(0, "phraseOf", 0, 0, 2).make("open 0").is(-1, "phraseOf", 0, 0, 2);
    }

    @Says(promise = 19, words = "3 for 1 if it agrees, and 0 otherwise")
    static void agreement() {
        Probe.saying(0, "sf", 3, 3).is(1, "phraseOf", 0, 0, 3);
        Probe.saying(0, "sf", 3, 2).is(0, "phraseOf", 0, 0, 3);
        Probe.saying(0, "sfb", 3, 2, 2).is(0, "phraseOf", 0, 0, 3);
        Probe.saying(0, "sssssf", 1, 1, 1, 1, 0, 0).is(1, "phraseOf", 0, 0, 3);
        Probe.saying(0, "sssssf", 0, 1, 1, 1, 1, 0).is(1, "phraseOf", 0, 0, 3);
        Probe.saying(0, "sssssf", 1, 1, 1, 1, 1, 0).is(0, "phraseOf", 0, 0, 3);
    }

    @Says(promise = 19, words = "Returns the number.")
    static void phraseOfTellsTheNapkinNotItsNumber() {
        Probe.saying(0, "..s.f", 0, 0, 1, 0, 1).is(4, "phraseOf", 0, 0, 1).is(1, "phraseOf", 0, 0, 3);
    }

    @Says(promise = 19, words = "Throws `IndexOutOfBoundsException` if there is no such table")
    static void noSuchTableHasThePhrase() {
        noSuchTable("phraseOf", 0, 0);
        noSuchTable("phraseOf", -1, 0);
        noSuchTable("phraseOf", 0, 4);
        noSuchTable("phraseOf", 2, -1);
    }

    @Says(promise = 19, words = "Throws `NoSuchElementException` if there is no such phrase")
    static void noSuchPhrase() {
        for (int what = 0; what <= 3; what++) {
            ALL_SAY.failsForEach(Probe.outside(0, 1), NOTHING_THERE, "phraseOf", 0, EACH, what);
            World.NONE_CAME.fails(NOTHING_THERE, "phraseOf", 0, 0, what);
            ALL_SAY.fails(NOTHING_THERE, "phraseOf", 1, 0, what);
            WRONG.fails(NOTHING_THERE, "phraseOf", 2, 0, what);
        }
        Probe.saying(1, "sf").is(1, "phraseOf", 1, 0, 0).fails(NOTHING_THERE, "phraseOf", 1, 1, 0);
    }

    @Says(promise = 19, words = "Throws `IllegalArgumentException` if what is not from 0 to 3")
    static void noSuchNumberOfAPhrase() {
        ALL_SAY.failsForEach(Probe.outside(0, 3), NO_SUCH_NUMBER, "phraseOf", 0, 0, EACH);
        ALL_SAY.failsForEach(Probe.outside(0, 3), NO_SUCH_NUMBER, "phraseOf", 0, 1, EACH);
    }

    @Says(promise = 20, words = "Returns which folds could be said next by a table, so that it could still become right, or be so.")
    static void nextOfRows() {
        everyRow("next", 2);
    }

    @Says(promise = 20, words = "`table`: the table")
    static void tablesWithNextFolds() {
        tablesAnswer("next", 16, 6, 2);
    }

    @Says(promise = 20, words = "Returns their set, bit k for the fold k")
    static void bitsOfFolds() {
        Probe.saying(0, "").is(1 << 1, "next", 0);
        Probe.saying(0, "s").is(1 << 1 | 1 << 2, "next", 0);
        Probe.saying(0, "sf").is(1 << 3 | 1 << 4, "next", 0);
        Probe.saying(0, "sfb").is(1 << 4, "next", 0);
        Probe.saying(0, "sfc").is(1 << 1, "next", 0);
    }

    @Says(promise = 20, words = "0 if what it says cannot go on at all.")
    static void nothingCanBeSaidNext() {
        WRONG.ready().is(0, "next", 2);
        Probe.saying(0, "f").is(0, "next", 0);
        Probe.saying(0, "sfbb").is(0, "next", 0);
        Probe.saying(0, "fsfcsf").is(0, "next", 0);
    }

    @Says(promise = 20, words = "Throws `IndexOutOfBoundsException` if there is no such table")
    static void noSuchTableWithNextFolds() {
        noSuchTable("next");
    }

    @Says(promise = 21, words = "Returns how many napkins of a table would have to be unfolded, at least, "
        + "so that it was right: by trying all sets.")
    static void fewestOfRows() {
        everyRow("fewest", 3);
    }

    @Says(promise = 21, words = "`table`: the table")
    static void tablesWithFewest() {
        tablesAnswer("fewest", 0, "throws.NoSuchElementException", "throws.NoSuchElementException");
        WRONG.ready().is(1, "fewest", 2);
    }

    @Says(promise = 21, words = "Returns how many, 0 if it is right.")
    static void fewestOfARightTable() {
        Probe.saying(0, "sf").is(0, "fewest", 0);
        Probe.saying(0, "....sf").is(0, "fewest", 0);
        Probe.saying(0, "sfbcsf").is(0, "fewest", 0);
        Probe.saying(0, "bbbbsf").is(4, "fewest", 0).make("open 0").is(3, "fewest", 0);
    }

    @Says(promise = 21, words = "Throws `IndexOutOfBoundsException` if there is no such table")
    static void noSuchTableWithFewest() {
        noSuchTable("fewest");
    }

    @Says(promise = 21, words = "Throws `NoSuchElementException` if it would not be right by any")
    static void noneAreEnough() {
        notRightByAny("fewest");
    }

    private static void notRightByAny(String call) {
        World.NONE_CAME.fails(NOTHING_THERE, call, 0);
        ALL_SAY.fails(NOTHING_THERE, call, 1);
        ALL_SAY.fails(NOTHING_THERE, call, 2);
        new World("save;new 0;new 0;fold 0f;fold 1s;lay 0 1;lay 1 1").fails(NOTHING_THERE, call, 1);
        for (String row : new String[] {"ssssss", "ffffff", "bbbbbb", "cccccc", "fbcfbs", "ffffbs"}) {
            Probe.saying(0, row).fails(NOTHING_THERE, call, 0);
        }
    }

    @Says(promise = 22, words = "Returns the same by a second way: napkin by napkin, by what a sentence can be at.")
    static void fewestAgainOfRows() {
        everyRow("fewestAgain", 3);
    }

    @Says(promise = 22, words = "`table`: the table")
    static void tablesWithFewestAgain() {
        tablesAnswer("fewestAgain", 0, "throws.NoSuchElementException", "throws.NoSuchElementException");
        WRONG.ready().is(1, "fewestAgain", 2);
    }

    @Says(promise = 22, words = "Returns how many.")
    static void fewestAgainOfARightTable() {
        Probe.saying(0, "sfbcsf").is(0, "fewestAgain", 0);
        Probe.saying(0, "bbbbsf").is(4, "fewestAgain", 0).make("open 0").is(3, "fewestAgain", 0);
    }

    @Says(promise = 22, words = "Throws `IndexOutOfBoundsException` if there is no such table")
    static void noSuchTableWithFewestAgain() {
        noSuchTable("fewestAgain");
    }

    @Says(promise = 22, words = "Throws `NoSuchElementException` if it would not be right by any")
    static void noneAreEnoughAgain() {
        notRightByAny("fewestAgain");
    }
}
