import java.util.NoSuchElementException;

/** Promises 23 to 28, sentence by sentence: doubt and orders. */
public final class PromisesOfDoubtTest {
    private static final Class<IndexOutOfBoundsException> NO_SUCH_ONE = IndexOutOfBoundsException.class;
    private static final Class<NoSuchElementException> NOTHING_THERE = NoSuchElementException.class;
    private static final Object EACH = World.EACH;

    /** Table 0 says a swan and a boat, table 1 nothing with a napkin on it, table 2 a swan. */
    private static final World STAINED = new World(
        "new 0;new 1;new 2;new 3;fold 0s;fold 1b;fold 3s;stain 0+2;stain 1+9;save;stain 2+7;stain 3+1;lay 0 0;lay 1 0;lay 2 1;lay 3 2");

    public static void main(String[] args) throws ReflectiveOperationException {
        Sentences.run(PromisesOfDoubtTest.class);
    }

    private static void noSuchTable(String call) {
        World.NONE_CAME.failsForEach(Probe.outside(0, 2), NO_SUCH_ONE, call, EACH);
        STAINED.failsForEach(Probe.outside(0, 2), NO_SUCH_ONE, call, EACH);
    }

    /** None, some, and most that there can be; those of an unfolded napkin do not count. */
    private static void doubts(String call) {
        Probe.saying(1, "").is(0, call, 1);
        Probe.saying(1, "ssssss").is(0, call, 1);
        Probe.saying(1, "......").make("stain 0+9;stain 5+9").is(0, call, 1);
        String[] orders = {"sfbcsf", "cbfsbc", "ffffff", "bbbbbb", "cccccc", "ssssss"};
        for (String folds : orders) {
            Probe x = Probe.saying(1, folds);
            for (int napkin = 0; napkin <= 5; napkin++) {
                x.make("stain " + napkin + "+9").is(9 * (napkin + 1), call, 1);
            }
            x.make("open 0").is(45, call, 1).make("open 5").is(36, call, 1).make("take 2").is(27, call, 1);
        }
    }

    private static void doubtOfEachFold(String call) {
        for (char fold : "sfbc".toCharArray()) {
            Probe.saying(0, "." + fold).make("stain 1+1").is(1, call, 0).make("stain 1+8;stain 0+4").is(9, call, 0);
        }
    }

    @Says(promise = 23, words = "Returns the doubt of a table, the stains of all that it says together: napkin by napkin.")
    static void doubtOfATable() {
        doubts("doubt");
        doubtOfEachFold("doubt");
    }

    @Says(promise = 23, words = "`table`: the table")
    static void tablesWithDoubt() {
        STAINED.ready().is(11, "doubt", 0).is(0, "doubt", 1).is(1, "doubt", 2);
    }

    @Says(promise = 23, words = "Returns the doubt.")
    static void doubtGoesWithTheNapkin() {
        STAINED.ready().make("take 1;lay 1 2").is(2, "doubt", 0).is(10, "doubt", 2);
    }

    @Says(promise = 23, words = "Throws `IndexOutOfBoundsException` if there is no such table")
    static void noSuchTableWithDoubt() {
        noSuchTable("doubt");
    }

    @Says(promise = 24, words = "Returns the same by a second way: fold by fold.")
    static void doubtAgainOfATable() {
        doubts("doubtAgain");
        doubtOfEachFold("doubtAgain");
    }

    @Says(promise = 24, words = "`table`: the table")
    static void tablesWithDoubtAgain() {
        STAINED.ready().is(11, "doubtAgain", 0).is(0, "doubtAgain", 1).is(1, "doubtAgain", 2);
    }

    @Says(promise = 24, words = "Returns the doubt.")
    static void doubtAgainGoesWithTheNapkin() {
        STAINED.ready().make("take 1;lay 1 2").is(2, "doubtAgain", 0).is(10, "doubtAgain", 2);
    }

    @Says(promise = 24, words = "Throws `IndexOutOfBoundsException` if there is no such table")
    static void noSuchTableWithDoubtAgain() {
        noSuchTable("doubtAgain");
    }

    @Says(promise = 25, words = "Returns how sure a table is: 100 times how many it says, less 10 times its doubt, "
        + "divided by how many it says, the numbers converted to float")
    static void surenessOfEveryNumberAndDoubt() {
        for (int says = 1; says <= 6; says++) {
            for (int doubt = 0; doubt <= 9 * says; doubt++) {
                Probe x = Probe.saying(2, "sfbcsf".substring(0, says));
                for (int rest = doubt, napkin = 0; rest > 0; rest -= 9, napkin++) {
                    x.make("stain " + napkin + "+" + Math.min(9, rest));
                }
                x.is((100 * says - 10 * doubt) / says, "sure", 2);
            }
        }
    }

    @Says(promise = 25, words = "the result is then converted to int.")
    static void surenessWithoutItsFraction() {
        Probe.saying(0, "sss").make("stain 0+1").is(96, "sure", 0).make("stain 0+1").is(93, "sure", 0).make("stain 0+1").is(90, "sure", 0);
        Probe.saying(0, "ssssss").make("stain 0+1").is(98, "sure", 0).make("stain 1+4").is(91, "sure", 0);
    }

    @Says(promise = 25, words = "`table`: the table")
    static void tablesThatAreSure() {
        STAINED.ready().is(45, "sure", 0).is("throws.ArithmeticException", "sure", 1).is(90, "sure", 2);
    }

    @Says(promise = 25, words = "Returns how sure.")
    static void leastAndMostSure() {
        Probe.saying(0, "s").is(100, "sure", 0).make("stain 0+9").is(10, "sure", 0);
    }

    @Says(promise = 25, words = "Throws `IndexOutOfBoundsException` if there is no such table")
    static void noSuchTableThatIsSure() {
        noSuchTable("sure");
    }

    @Says(promise = 25, words = "Throws `ArithmeticException` if it says nothing")
    static void nothingToBeSureOf() {
        for (int table = 0; table <= 2; table++) {
            World.NONE_CAME.fails(ArithmeticException.class, "sure", table);
        }
        STAINED.fails(ArithmeticException.class, "sure", 1);
        Probe.saying(0, "s").make("open 0").fails(ArithmeticException.class, "sure", 0);
    }

    private static Probe clearest(Probe x, int first, int second, int third) {
        return x.is(first, "clearest", 0).is(second, "clearest", 1).is(third, "clearest", 2);
    }

    @Says(promise = 26, words = "Returns a table by its phrases: the most first")
    static void mostPhrasesFirst() {
        clearest(new Probe().lay(2, "sfcsf").lay(1, "sf"), 2, 1, 0);
        clearest(new Probe().lay(1, "sfcsf").lay(2, "sf"), 1, 2, 0);
        clearest(new Probe().lay(0, "s").lay(2, "sf").make("stain 1+9"), 2, 0, 1);
        clearest(new Probe().lay(0, "sf").lay(1, "sfcsf").make("stain 2+9;stain 3+9"), 1, 0, 2);
    }

    @Says(promise = 26, words = "of several the one with less doubt")
    static void lessDoubtFirst() {
        clearest(new Probe().lay(0, "sf").lay(1, "sf").lay(2, "sf").make("stain 0+2;stain 3+1"), 2, 1, 0);
        clearest(new Probe().lay(0, "sf").lay(1, "sf").lay(2, "sf").make("stain 5+9;stain 1+9;stain 0+1"), 1, 2, 0);
        clearest(new Probe().lay(0, "s").lay(1, "f").make("stain 0+1"), 1, 2, 0);
        clearest(new Probe().lay(0, ".").lay(1, "f").make("stain 0+9;stain 1+1"), 0, 2, 1);
    }

    @Says(promise = 26, words = "then the lowest.")
    static void lowestTableFirst() {
        clearest(new Probe(), 0, 1, 2);
        clearest(new Probe().lay(0, "sf").lay(1, "sf").lay(2, "sf"), 0, 1, 2);
        clearest(new Probe().lay(2, "sf").lay(1, "sf").make("stain 0+3;stain 2+3"), 1, 2, 0);
    }

    @Says(promise = 26, words = "`place`: the place, from 0")
    static void firstAndLastPlaceOfTables() {
        new Probe().lay(1, "sf").is(1, "clearest", 0).is(2, "clearest", 2);
    }

    @Says(promise = 26, words = "Returns the table.")
    static void eachTableHasOnePlace() {
        clearest(STAINED.ready(), 1, 2, 0);
    }

    @Says(promise = 26, words = "Throws `NoSuchElementException` if there is no such place")
    static void noSuchPlaceOfTables() {
        World.NONE_CAME.failsForEach(Probe.outside(0, 2), NOTHING_THERE, "clearest", EACH);
        STAINED.failsForEach(Probe.outside(0, 2), NOTHING_THERE, "clearest", EACH);
    }

    private static void worn(Probe x, int... due) {
        for (int place = 0; place < due.length; place++) {
            x.is(due[place], "worn", place);
        }
        x.fails(NOTHING_THERE, "worn", due.length);
    }

    @Says(promise = 27, words = "Returns a napkin by its creases: the most first")
    static void mostCreasesFirst() {
        worn(Probe.after("new 0;new 0;new 0;fold 2s;fold 1b"), 2, 1, 0);
        worn(Probe.after("new 0;new 0;new 0;fold 0f;fold 1s;open 1;stain 0+9;stain 2+9"), 1, 0, 2);
    }

    @Says(promise = 27, words = "of several the one with more stains")
    static void moreStainsFirst() {
        worn(Probe.after("new 0;new 0;new 0;stain 1+1;stain 2+2"), 2, 1, 0);
        worn(Probe.after("new 0;new 0;new 0;fold 0b;fold 1c;stain 1+9;stain 2+1"), 1, 0, 2);
    }

    @Says(promise = 27, words = "then the lowest.")
    static void lowestNapkinFirst() {
        worn(Probe.after("new 0;new 0;new 0"), 0, 1, 2);
        worn(Probe.after("new 0;new 0;new 0;fold 1b;fold 2c;stain 1+4;stain 2+4"), 1, 2, 0);
    }

    @Says(promise = 27, words = "`place`: the place, from 0")
    static void firstAndLastPlaceOfNapkins() {
        worn(Probe.after("new 0"), 0);
        worn(Probe.after("new 0;new 0;new 0;new 0;new 0;new 0;new 0;new 0;new 0;new 0;fold 9s;stain 4+1"), 9, 4, 0, 1, 2, 3, 5, 6, 7, 8);
    }

    @Says(promise = 27, words = "Returns the napkin.")
    static void eachNapkinHasOnePlace() {
        worn(STAINED.ready(), 0, 3, 1, 2);
    }

    @Says(promise = 27, words = "Throws `NoSuchElementException` if there is no such place")
    static void noSuchPlaceOfNapkins() {
        World.NONE_CAME.failsForEach(Probe.outside(0, -1), NOTHING_THERE, "worn", EACH);
        new World("save;new 0").failsForEach(Probe.outside(0, 0), NOTHING_THERE, "worn", EACH);
        STAINED.failsForEach(Probe.outside(0, 3), NOTHING_THERE, "worn", EACH);
        new World("save;new 0;new 0;new 0;new 0;new 0;new 0;new 0;new 0;new 0;new 0")
            .failsForEach(Probe.outside(0, 9), NOTHING_THERE, "worn", EACH);
    }

    @Says(promise = 28, words = "Tells whether where tables go wrong, the fewest to unfold, and doubts are told alike by both ways, "
        + "no napkin lies at two places, and none that is unfolded is said.")
    static void isWellWhateverIsSaid() {
        for (String folds : new String[] {"", "......", "ssssss", "sfbcsf", "cccccc", "fbcfbs", "bbbbsf", "sfsfsf"}) {
            Probe x = Probe.saying(0, folds).is(true, "isWell");
            for (int napkin = 0; napkin < folds.length(); napkin++) {
                x.make("stain " + napkin + "+9").is(true, "isWell");
            }
        }
    }

    @Says(promise = 28, words = "Returns whether this is so.")
    static void isWellAfterEachChange() {
        Probe x = STAINED.ready().is(true, "isWell");
        for (String change : "fold 0f;open 1;take 0;lay 0 2;move 2 01;stain 2+1;take 1;wash 1;lay 1 2;read 2".split(";")) {
            x.make(change).is(true, "isWell");
        }
        x.is(7, "undo").is(true, "isWell").is(4, "restore").is(true, "isWell");
    }
}
