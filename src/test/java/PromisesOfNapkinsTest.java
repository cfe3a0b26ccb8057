import java.util.NoSuchElementException;

/** Promises 1 to 13, sentence by sentence: napkins and tables. */
public final class PromisesOfNapkinsTest {
    private static final Class<IndexOutOfBoundsException> NO_SUCH_ONE = IndexOutOfBoundsException.class;
    private static final Class<IllegalArgumentException> NO_SUCH_NUMBER = IllegalArgumentException.class;
    private static final Class<NoSuchElementException> NOTHING_THERE = NoSuchElementException.class;
    private static final Object EACH = World.EACH;

    private static final World ONE_CAME = new World("save;new 2;stain 0+9");
    private static final World THREE_LIE = new World(
        "new 0;new 1;new 2;new 3;fold 0s;save;lay 0 0;lay 1 0;lay 2 0;stain 0+4;stain 1+9;fold 1f;read 0;fold 2s");
    private static final World SIX_LIE = new World(
        World.TEN + ";save;lay 0 1;lay 1 1;lay 2 1;lay 3 1;lay 4 1;lay 5 1;lay 6 0;lay 7 2");

    public static void main(String[] args) throws ReflectiveOperationException {
        Sentences.run(PromisesOfNapkinsTest.class);
    }

    private static void noSuchNapkin(String call, Object... arguments) {
        World.NONE_CAME.failsForEach(Probe.outside(0, -1), NO_SUCH_ONE, call, with(EACH, arguments));
        ONE_CAME.failsForEach(Probe.outside(0, 0), NO_SUCH_ONE, call, with(EACH, arguments));
        World.TEN_CAME.failsForEach(Probe.outside(0, 9), NO_SUCH_ONE, call, with(EACH, arguments));
    }

    private static Object[] with(Object first, Object... rest) {
        Object[] arguments = new Object[rest.length + 1];
        arguments[0] = first;
        System.arraycopy(rest, 0, arguments, 1, rest.length);
        return arguments;
    }

    @Says(promise = 1, words = "Begins without napkins.")
    static void newObjectHasNoNapkins() {
        Probe x = new Probe();
        for (int what = 0; what <= 11; what++) {
            x.is(0, "account", what);
        }
        x.fails(NO_SUCH_ONE, "napkinOf", 0, 0).fails(NOTHING_THERE, "worn", 0);
        for (int table = 0; table <= 2; table++) {
            for (int what = 0; what <= 5; what++) {
                x.is(0, "tableOf", table, what);
            }
            x.fails(NOTHING_THERE, "seat", table, 0).fails(NOTHING_THERE, "said", table, 0);
        }
        x.is(true, "isWell");
    }

    @Says(promise = 1, words = "Begins without napkins.")
    static void newObjectKeepsNothingYet() {
        new Probe().noRefusal().fails(NOTHING_THERE, "errorPosition").fails(NOTHING_THERE, "written", 0)
            .fails(IllegalStateException.class, "undo").fails(IllegalStateException.class, "restore")
            .fails(ArithmeticException.class, "meanStains").fails(ArithmeticException.class, "foldedShare");
    }

    @Says(promise = 1, words = "Begins without napkins.")
    static void newObjectHasNothingOfAnother() {
        Probe used = THREE_LIE.ready();
        new Probe().is(0, "account", 0).is(0, "account", 10).is(0, "account", 11).noRefusal();
        used.is(4, "account", 0).is(5, "account", 10).is(8, "account", 11).refusal(9, 1);
    }

    @Says(promise = 2, words = "Lets a napkin come.")
    static void napkinComes() {
        Probe x = Probe.after("new 1;fold 0s;stain 0+2;lay 0 0").is(1, "napkin", 3).is(2, "account", 0);
        int[] due = {3, 0, 0, 0, -1, -1, 0};
        for (int what = 0; what < due.length; what++) {
            x.is(due[what], "napkinOf", 1, what);
        }
        x.is(1, "napkinOf", 0, 0).is(1, "napkinOf", 0, 1).is(2, "napkinOf", 0, 3).is(0, "napkinOf", 0, 4);
        x.is(5, "account", 11).is(4, "undo").is(1, "account", 0);
    }

    @Says(promise = 2, words = "`colour`: its colour")
    static void everyColourComes() {
        Probe x = new Probe();
        for (int colour = 0; colour <= 3; colour++) {
            x.is(colour, "napkin", colour).is(colour, "napkinOf", colour, 0);
        }
    }

    @Says(promise = 2, words = "Returns its number.")
    static void numbersGoFrom0To9() {
        Probe x = new Probe();
        for (int number = 0; number <= 9; number++) {
            x.is(number, "napkin", 2).is(number + 1, "account", 0);
        }
    }

    @Says(promise = 2, words = "Throws `IllegalArgumentException` if there is no such colour")
    static void noSuchColour() {
        World.NONE_CAME.failsForEach(Probe.outside(0, 3), NO_SUCH_NUMBER, "napkin", EACH);
        ONE_CAME.failsForEach(Probe.outside(0, 3), NO_SUCH_NUMBER, "napkin", EACH);
        World.TEN_CAME.failsForEach(Probe.outside(0, 3), NO_SUCH_NUMBER, "napkin", EACH);
    }

    @Says(promise = 2, words = "Throws `UnsupportedOperationException` if it is refused, for the reason 1")
    static void eleventhNapkinIsRefused() {
        for (int colour = 0; colour <= 3; colour++) {
            World.TEN_CAME.refuses(1, 10, "napkin", colour);
        }
        World.TEN_CAME.ready().is(7, "undo").is(9, "napkin", 3).refuses(1, 10, "napkin", 3);
    }

    @Says(promise = 3, words = "Folds a napkin.")
    static void napkinIsFolded() {
        for (int fold = 1; fold <= 4; fold++) {
            Probe.after("new 1;new 2;stain 1+3").is(creasesFor(fold), "fold", 1, fold).is(fold, "napkinOf", 1, 1)
                .is(creasesFor(fold), "napkinOf", 1, 2).is(1, "napkinOf", 1, 6).is(3, "napkinOf", 1, 3).is(2, "napkinOf", 1, 0)
                .is(0, "napkinOf", 0, 1).is(0, "napkinOf", 0, 2).is(0, "napkinOf", 0, 6)
                .is(1, "account", 1).is(creasesFor(fold), "account", 3).is(1, "account", 8)
                .is(4, "account", 11).is(3, "undo").is(0, "napkinOf", 1, 1).is(0, "napkinOf", 1, 2).is(0, "napkinOf", 1, 6);
        }
    }

    private static int creasesFor(int fold) {
        return fold == 1 ? 3 : fold == 2 ? 1 : 2;
    }

    @Says(promise = 3, words = "`napkin`: the napkin")
    static void firstAndLastNapkinAreFolded() {
        World.TEN_CAME.ready().is(3, "fold", 0, 1).is(1, "fold", 9, 2).is(1, "napkinOf", 0, 1).is(2, "napkinOf", 9, 1)
            .is(0, "napkinOf", 1, 1).is(0, "napkinOf", 8, 1);
    }

    @Says(promise = 3, words = "`fold`: the fold, 1 to 4")
    static void lowestAndHighestFold() {
        Probe.after("new 0").is(3, "fold", 0, 1).is(1, "napkinOf", 0, 1).is(5, "fold", 0, 4).is(4, "napkinOf", 0, 1);
    }

    @Says(promise = 3, words = "Returns how many creases it has then.")
    static void foldTellsCreases() {
        Probe.after("new 0;new 0;fold 1s").is(3, "fold", 0, 1).is(4, "fold", 0, 2).is(6, "fold", 0, 3).is(8, "fold", 0, 4)
            .is(4, "unfold", 0).is(9, "fold", 0, 2).is(12, "fold", 0, 1).is(4, "fold", 1, 2);
    }

    @Says(promise = 3, words = "Throws `IndexOutOfBoundsException` if there is no such napkin")
    static void noSuchNapkinToFold() {
        noSuchNapkin("fold", 1);
    }

    @Says(promise = 3, words = "Throws `IllegalArgumentException` if there is no such fold")
    static void noSuchFold() {
        ONE_CAME.failsForEach(Probe.outside(1, 4), NO_SUCH_NUMBER, "fold", 0, EACH);
        THREE_LIE.failsForEach(Probe.outside(1, 4), NO_SUCH_NUMBER, "fold", 2, EACH);
        new World("new 0;fold 0s;fold 0f;fold 0s;fold 0b;fold 0f;fold 0b")
            .failsForEach(Probe.outside(1, 4), NO_SUCH_NUMBER, "fold", 0, EACH);
    }

    @Says(promise = 3, words = "if it is refused, for the reason 2, with the fold, or 3")
    static void sameFoldIsRefused() {
        for (int fold = 1; fold <= 4; fold++) {
            new World("save;new 0;fold 0" + ".sfbc".charAt(fold)).refuses(2, fold, "fold", 0, fold);
        }
        new World("new 0;lay 0 1;fold 0s;save;fold 0f").refuses(2, 2, "fold", 0, 2);
    }

    @Says(promise = 3, words = "if it is refused, for the reason 2, with the fold, or 3")
    static void thirteenthCreaseIsRefused() {
        new World("save;new 0;fold 0s;fold 0b;fold 0s;fold 0b").refuses(3, 10, "fold", 0, 1);
        new World("save;new 0;fold 0s;fold 0b;fold 0s;fold 0b;fold 0f").refuses(3, 11, "fold", 0, 1);
        new World("save;new 0;fold 0s;fold 0b;fold 0s;fold 0b;fold 0f").refuses(3, 11, "fold", 0, 3);
        new World("save;new 0;fold 0s;fold 0b;fold 0s;fold 0b;fold 0f").refuses(3, 11, "fold", 0, 4);
        World full = new World("new 0;fold 0s;fold 0b;fold 0s;fold 0b;save;fold 0c;lay 0 2;open 0");
        for (int fold = 1; fold <= 4; fold++) {
            full.refuses(3, 12, "fold", 0, fold);
        }
    }

    @Says(promise = 4, words = "Unfolds a napkin.")
    static void napkinIsUnfolded() {
        Probe.after("new 3;new 1;fold 0s;fold 1b;stain 1+5").is(3, "unfold", 1).is(0, "napkinOf", 1, 1)
            .is(2, "napkinOf", 1, 2).is(5, "napkinOf", 1, 3).is(1, "napkinOf", 1, 6).is(1, "napkinOf", 0, 1)
            .is(1, "account", 1).is(5, "account", 3).is(2, "account", 8).is(6, "account", 11).is(5, "undo").is(3, "napkinOf", 1, 1);
    }

    @Says(promise = 4, words = "`napkin`: the napkin")
    static void firstAndLastNapkinAreUnfolded() {
        World.TEN_CAME.ready().make("fold 0s;fold 9c;fold 8f;fold 1b").is(1, "unfold", 0).is(4, "unfold", 9)
            .is(0, "napkinOf", 0, 1).is(0, "napkinOf", 9, 1).is(3, "napkinOf", 1, 1).is(2, "napkinOf", 8, 1);
    }

    @Says(promise = 4, words = "Returns the fold that it had.")
    static void unfoldTellsTheFold() {
        for (int fold = 1; fold <= 4; fold++) {
            Probe.after("new 0;fold 0" + ".sfbc".charAt(fold)).is(fold, "unfold", 0);
        }
        Probe.after("new 0;fold 0s;fold 0b").is(3, "unfold", 0);
    }

    @Says(promise = 4, words = "Throws `IndexOutOfBoundsException` if there is no such napkin")
    static void noSuchNapkinToUnfold() {
        noSuchNapkin("unfold");
    }

    @Says(promise = 4, words = "Throws `UnsupportedOperationException` if it is refused, for the reason 2, with the fold 0")
    static void unfoldedNapkinIsRefused() {
        ONE_CAME.refuses(2, 0, "unfold", 0);
        World.TEN_CAME.refuses(2, 0, "unfold", 9);
        new World("save;new 0;fold 0s;open 0").refuses(2, 0, "unfold", 0);
        new World("save;new 0;stain 0+1;fold 0s;wash 0").refuses(2, 0, "unfold", 0);
    }

    @Says(promise = 5, words = "Lays a napkin on a table, behind those that lie there.")
    static void napkinIsLaidBehind() {
        Probe.after("new 0;new 0;new 0;new 0;lay 3 1").row("3", 1).make("lay 0 1").row("30", 1).make("lay 2 1").row("302", 1)
            .make("lay 1 2").row("302", 1).row("1", 2).row("", 0).is(4, "account", 2)
            .is(8, "account", 11).is(7, "undo").row("", 2).is(-1, "napkinOf", 1, 4);
    }

    @Says(promise = 5, words = "`napkin`: the napkin")
    static void firstAndLastNapkinAreLaid() {
        World.TEN_CAME.ready().is(0, "lay", 9, 0).is(1, "lay", 0, 0).row("90", 0);
    }

    @Says(promise = 5, words = "`table`: the table")
    static void firstAndLastTableAreLaidOn() {
        Probe.after("new 0;new 0;lay 0 0;lay 1 2").row("0", 0).row("", 1).row("1", 2).is(0, "napkinOf", 0, 4).is(2, "napkinOf", 1, 4);
    }

    @Says(promise = 5, words = "Returns its place.")
    static void layTellsThePlace() {
        Probe x = Probe.after(World.TEN);
        for (int place = 0; place <= 5; place++) {
            x.is(place, "lay", 9 - place, 1).is(place, "napkinOf", 9 - place, 5);
        }
        x.is(0, "lay", 0, 2).is(2, "take", 7).is(5, "lay", 7, 1);
    }

    @Says(promise = 5, words = "Throws `IndexOutOfBoundsException` if there is no such napkin or table")
    static void noSuchNapkinToLay() {
        noSuchNapkin("lay", 0);
    }

    @Says(promise = 5, words = "Throws `IndexOutOfBoundsException` if there is no such napkin or table")
    static void noSuchTableToLayOn() {
        ONE_CAME.failsForEach(Probe.outside(0, 2), NO_SUCH_ONE, "lay", 0, EACH);
        SIX_LIE.failsForEach(Probe.outside(0, 2), NO_SUCH_ONE, "lay", 0, EACH);
        SIX_LIE.failsForEach(Probe.outside(0, 2), NO_SUCH_ONE, "lay", 9, EACH);
    }

    @Says(promise = 5, words = "Throws `UnsupportedOperationException` if it is refused, for the reason 4 or 1")
    static void napkinThatLiesIsRefused() {
        for (int table = 0; table <= 2; table++) {
            THREE_LIE.refuses(4, 0, "lay", 1, table);
            SIX_LIE.refuses(4, 1, "lay", 5, table);
            SIX_LIE.refuses(4, 2, "lay", 7, table);
        }
    }

    @Says(promise = 5, words = "Throws `UnsupportedOperationException` if it is refused, for the reason 4 or 1")
    static void seventhOnATableIsRefused() {
        SIX_LIE.refuses(1, 6, "lay", 8, 1);
        SIX_LIE.refuses(1, 6, "lay", 9, 1);
        SIX_LIE.ready().is(1, "lay", 8, 0).is(1, "lay", 9, 2).make("take 8;take 0").is(5, "lay", 8, 1).refuses(1, 6, "lay", 0, 1);
    }

    @Says(promise = 6, words = "Takes a napkin from its table.")
    static void napkinIsTaken() {
        Probe.after("new 0;new 0;new 0;fold 1s;stain 1+2;lay 0 2;lay 1 2;lay 2 2").is(1, "take", 1).row("02", 2)
            .is(-1, "napkinOf", 1, 4).is(-1, "napkinOf", 1, 5).is(1, "napkinOf", 1, 1).is(2, "napkinOf", 1, 3)
            .is(2, "account", 2).is(8, "account", 11).is(7, "undo").row("012", 2).is(1, "napkinOf", 1, 5);
    }

    @Says(promise = 6, words = "`napkin`: the napkin")
    static void firstAndLastNapkinAreTaken() {
        World.TEN_CAME.ready().make("lay 0 0;lay 9 0;lay 5 0").is(0, "take", 0).row("95", 0).is(0, "take", 9).row("5", 0);
    }

    @Says(promise = 6, words = "Returns the place that it had.")
    static void takeTellsThePlace() {
        for (int napkin = 0; napkin <= 5; napkin++) {
            SIX_LIE.ready().is(napkin, "take", napkin);
        }
        SIX_LIE.ready().is(0, "take", 6).is(0, "take", 7);
    }

    @Says(promise = 6, words = "Throws `IndexOutOfBoundsException` if there is no such napkin")
    static void noSuchNapkinToTake() {
        noSuchNapkin("take");
    }

    @Says(promise = 6, words = "Throws `UnsupportedOperationException` if it is refused, for the reason 5")
    static void napkinOnNoTableIsRefused() {
        World.TEN_CAME.refuses(5, 0, "take", 0);
        World.TEN_CAME.refuses(5, 9, "take", 9);
        SIX_LIE.refuses(5, 8, "take", 8);
        new World("save;new 0;new 0;lay 1 0;lay 0 0;take 0").refuses(5, 0, "take", 0);
    }

    @Says(promise = 7, words = "Moves a napkin on a table")
    static void napkinIsMoved() {
        Probe.after("new 0;new 0;new 0;lay 0 1;lay 1 1;lay 2 1").is(2, "move", 1, 2, 1).row("021", 1).is(1, "napkinOf", 2, 5)
            .is(2, "napkinOf", 1, 5).is(1, "napkinOf", 2, 4).is(3, "tableOf", 1, 0).is(7, "account", 11).is(6, "undo").row("012", 1);
    }

    @Says(promise = 7, words = "those between go on by one place.")
    static void thoseBetweenGoOn() {
        for (int from = 0; from <= 5; from++) {
            for (int to = 0; to <= 5; to++) {
                if (from != to) {
                    StringBuilder row = new StringBuilder("012345").deleteCharAt(from).insert(to, from);
                    SIX_LIE.ready().is(from, "move", 1, from, to).row(row.toString(), 1).row("6", 0).row("7", 2);
                }
            }
        }
    }

    @Says(promise = 7, words = "`table`: the table")
    static void firstAndLastTableAreMovedOn() {
        Probe.after("new 0;new 0;new 0;new 0;lay 0 0;lay 1 0;lay 2 2;lay 3 2").is(0, "move", 0, 0, 1).row("10", 0).row("23", 2)
            .is(3, "move", 2, 1, 0).row("10", 0).row("32", 2);
    }

    @Says(promise = 7, words = "`from`: the place of the napkin")
    static void firstAndLastPlaceToMoveFrom() {
        SIX_LIE.ready().is(0, "move", 1, 0, 3).row("123045", 1).is(5, "move", 1, 5, 3).row("123504", 1);
    }

    @Says(promise = 7, words = "`to`: its place then")
    static void firstAndLastPlaceToMoveTo() {
        SIX_LIE.ready().is(3, "move", 1, 3, 0).row("301245", 1).is(2, "move", 1, 3, 5).row("301452", 1);
    }

    @Says(promise = 7, words = "Returns the napkin.")
    static void moveTellsTheNapkin() {
        Probe.after(World.TEN + ";lay 9 0;lay 0 0;lay 4 0").is(4, "move", 0, 2, 0).is(9, "move", 0, 1, 2).is(4, "move", 0, 0, 1);
    }

    @Says(promise = 7, words = "Throws `IndexOutOfBoundsException` if there is no such table, or no such place on it, for either")
    static void noSuchTableToMoveOn() {
        SIX_LIE.failsForEach(Probe.outside(0, 2), NO_SUCH_ONE, "move", EACH, 0, 1);
    }

    @Says(promise = 7, words = "Throws `IndexOutOfBoundsException` if there is no such table, or no such place on it, for either")
    static void noSuchPlaceToMoveFrom() {
        SIX_LIE.failsForEach(Probe.outside(0, 5), NO_SUCH_ONE, "move", 1, EACH, 0);
        THREE_LIE.failsForEach(Probe.outside(0, 2), NO_SUCH_ONE, "move", 0, EACH, 2);
        THREE_LIE.fails(NO_SUCH_ONE, "move", 1, 0, 0);
    }

    @Says(promise = 7, words = "Throws `IndexOutOfBoundsException` if there is no such table, or no such place on it, for either")
    static void noSuchPlaceToMoveTo() {
        SIX_LIE.failsForEach(Probe.outside(0, 5), NO_SUCH_ONE, "move", 1, 0, EACH);
        THREE_LIE.failsForEach(Probe.outside(0, 2), NO_SUCH_ONE, "move", 0, 2, EACH);
        SIX_LIE.fails(NO_SUCH_ONE, "move", 0, 0, 1);
    }

    @Says(promise = 7, words = "Throws `UnsupportedOperationException` if it is refused, for the reason 2, with the place")
    static void samePlaceIsRefused() {
        for (int place = 0; place <= 5; place++) {
            SIX_LIE.refuses(2, place, "move", 1, place, place);
        }
        SIX_LIE.refuses(2, 0, "move", 0, 0, 0);
    }

    @Says(promise = 8, words = "Stains a napkin.")
    static void napkinIsStained() {
        Probe.after("new 0;new 1;fold 0s").is(4, "stain", 0, 4).is(4, "napkinOf", 0, 3).is(0, "napkinOf", 1, 3)
            .is(1, "napkinOf", 0, 1).is(3, "napkinOf", 0, 2).is(4, "account", 4).is(4, "account", 11).is(3, "undo").is(0, "account", 4);
    }

    @Says(promise = 8, words = "`napkin`: the napkin")
    static void firstAndLastNapkinAreStained() {
        World.TEN_CAME.ready().is(2, "stain", 0, 2).is(7, "stain", 9, 7)
            .is(2, "napkinOf", 0, 3).is(7, "napkinOf", 9, 3).is(9, "account", 4);
    }

    @Says(promise = 8, words = "`much`: by how many stains more, 1 to 9")
    static void leastAndMostStains() {
        Probe.after("new 0;new 0").is(1, "stain", 0, 1).is(9, "stain", 1, 9);
    }

    @Says(promise = 8, words = "Returns how many stains it has then.")
    static void stainTellsTheStains() {
        Probe.after("new 0;new 0;stain 1+3").is(1, "stain", 0, 1).is(3, "stain", 0, 2).is(8, "stain", 0, 5).is(9, "stain", 0, 1);
    }

    @Says(promise = 8, words = "Throws `IndexOutOfBoundsException` if there is no such napkin")
    static void noSuchNapkinToStain() {
        noSuchNapkin("stain", 1);
    }

    @Says(promise = 8, words = "Throws `IllegalArgumentException` if the number is out of range")
    static void noSuchNumberOfStains() {
        World.TEN_CAME.failsForEach(Probe.outside(1, 9), NO_SUCH_NUMBER, "stain", 9, EACH);
        ONE_CAME.failsForEach(Probe.outside(1, 9), NO_SUCH_NUMBER, "stain", 0, EACH);
    }

    @Says(promise = 8, words = "Throws `UnsupportedOperationException` if it is refused, for the reason 6")
    static void tenthStainIsRefused() {
        for (int stains = 1; stains <= 9; stains++) {
            World stained = new World("save;new 0;stain 0+" + stains);
            stained.refuses(6, stains, "stain", 0, 10 - stains);
            stained.refuses(6, stains, "stain", 0, 9);
            if (stains < 9) {
                stained.ready().is(9, "stain", 0, 9 - stains);
            }
        }
    }

    @Says(promise = 9, words = "Washes a napkin.")
    static void napkinIsWashed() {
        Probe.after("new 2;new 1;fold 0b;stain 0+4;stain 1+3").is(4, "wash", 0).is(0, "napkinOf", 0, 3).is(0, "napkinOf", 0, 1)
            .is(2, "napkinOf", 0, 2).is(1, "napkinOf", 0, 6).is(2, "napkinOf", 0, 0).is(3, "napkinOf", 1, 3)
            .is(3, "account", 4).is(4, "account", 9).is(1, "account", 8)
            .is(6, "account", 11).is(5, "undo").is(4, "napkinOf", 0, 3).is(3, "napkinOf", 0, 1).is(0, "account", 9);
    }

    @Says(promise = 9, words = "`napkin`: the napkin")
    static void firstAndLastNapkinAreWashed() {
        World.TEN_CAME.ready().make("stain 0+1;stain 9+9;stain 8+2").is(1, "wash", 0).is(9, "wash", 9).is(2, "napkinOf", 8, 3);
    }

    @Says(promise = 9, words = "Returns how many stains it had.")
    static void washTellsTheStains() {
        for (int stains = 1; stains <= 9; stains++) {
            Probe.after("new 0;stain 0+" + stains).is(stains, "wash", 0).is(stains, "account", 9);
        }
    }

    @Says(promise = 9, words = "Throws `IndexOutOfBoundsException` if there is no such napkin")
    static void noSuchNapkinToWash() {
        noSuchNapkin("wash");
    }

    @Says(promise = 9, words = "Throws `UnsupportedOperationException` if it is refused, for the reason 4 or 7")
    static void napkinOnATableIsNotWashed() {
        for (int table = 0; table <= 2; table++) {
            new World("save;new 0;stain 0+9;fold 0s;lay 0 " + table).refuses(4, table, "wash", 0);
            new World("save;new 0;lay 0 " + table).refuses(4, table, "wash", 0);
        }
    }

    @Says(promise = 9, words = "Throws `UnsupportedOperationException` if it is refused, for the reason 4 or 7")
    static void cleanNapkinIsNotWashed() {
        World.TEN_CAME.refuses(7, 0, "wash", 0);
        World.TEN_CAME.refuses(7, 9, "wash", 9);
        new World("save;new 0;new 0;fold 1s").refuses(7, 1, "wash", 1);
        new World("save;new 0;stain 0+9;wash 0").refuses(7, 0, "wash", 0);
    }

    @Says(promise = 10, words = "Lets a host read a table.")
    static void hostReads() {
        Probe.saying(1, "sf").is(1, "host", 1).is(1, "tableOf", 1, 4).is(0, "tableOf", 1, 5).is(1, "account", 6).is(0, "account", 7)
            .is(0, "tableOf", 0, 4).is(0, "tableOf", 2, 4).is(7, "account", 11).is(6, "undo").is(0, "tableOf", 1, 4).is(0, "account", 6);
    }

    @Says(promise = 10, words = "`table`: the table")
    static void firstAndLastTableAreRead() {
        new Probe().lay(0, "sf").lay(2, "sfcsf").is(1, "host", 0).is(2, "host", 2).is(1, "tableOf", 0, 4).is(1, "tableOf", 2, 4);
    }

    @Says(promise = 10, words = "Returns how many phrases are understood, 0 if the table is not right.")
    static void hostTellsThePhrases() {
        Probe.saying(0, "s").is(0, "host", 0).is(1, "tableOf", 0, 5);
        Probe.saying(0, "sf").is(1, "host", 0);
        Probe.saying(0, "ssssfb").is(1, "host", 0);
        Probe.saying(0, "sfbcsf").is(2, "host", 0).is(2, "host", 0).is(4, "account", 6).is(0, "account", 7);
        Probe.saying(0, "sfcsfc").is(0, "host", 0).is(0, "account", 6).is(1, "account", 7);
    }

    @Says(promise = 10, words = "Throws `IndexOutOfBoundsException` if there is no such table")
    static void noSuchTableToRead() {
        World.NONE_CAME.failsForEach(Probe.outside(0, 2), NO_SUCH_ONE, "host", EACH);
        THREE_LIE.failsForEach(Probe.outside(0, 2), NO_SUCH_ONE, "host", EACH);
    }

    @Says(promise = 10, words = "Throws `UnsupportedOperationException` if it is refused, for the reason 8")
    static void tableThatSaysNothingIsNotRead() {
        for (int table = 0; table <= 2; table++) {
            World.NONE_CAME.refuses(8, 0, "host", table);
        }
        SIX_LIE.refuses(8, 1, "host", 0);
        SIX_LIE.refuses(8, 6, "host", 1);
        SIX_LIE.ready().make("fold 5c").is(0, "host", 1);
    }

    @Says(promise = 11, words = "Returns a number of a napkin.")
    static void numbersOfANapkin() {
        Probe x = Probe.after("new 2;new 3;fold 1s;fold 1b;stain 1+7;lay 0 2;lay 1 2");
        int[][] due = {{2, 0, 0, 0, 2, 0, 0}, {3, 3, 5, 7, 2, 1, 2}};
        for (int napkin = 0; napkin <= 1; napkin++) {
            for (int what = 0; what <= 6; what++) {
                x.is(due[napkin][what], "napkinOf", napkin, what);
            }
        }
    }

    @Says(promise = 11, words = "0 for its colour, 1 for its fold, 2 for its creases, 3 for its stains")
    static void numbersOfEveryNapkin() {
        Probe x = Probe.after(World.TEN);
        for (int napkin = 0; napkin <= 9; napkin++) {
            int fold = 1 + napkin % 4;
            x.make("stain " + napkin + "+" + Math.max(1, napkin)).is(napkin % 4, "napkinOf", napkin, 0).is(0, "napkinOf", napkin, 1)
                .is(0, "napkinOf", napkin, 2).is(Math.max(1, napkin), "napkinOf", napkin, 3);
            x.make("fold " + napkin + Grammar.FOLDS.charAt(fold)).is(napkin % 4, "napkinOf", napkin, 0).is(fold, "napkinOf", napkin, 1)
                .is(creasesFor(fold), "napkinOf", napkin, 2).is(Math.max(1, napkin), "napkinOf", napkin, 3);
            x.make("open " + napkin).is(0, "napkinOf", napkin, 1).is(creasesFor(fold), "napkinOf", napkin, 2)
                .make("wash " + napkin).is(creasesFor(fold), "napkinOf", napkin, 2).is(0, "napkinOf", napkin, 3);
        }
    }

    @Says(promise = 11, words = "4 for its table, -1 for none, 5 for its place there, -1 for none")
    static void napkinOnNoTable() {
        Probe.after("new 0").is(-1, "napkinOf", 0, 4).is(-1, "napkinOf", 0, 5).make("lay 0 0").is(0, "napkinOf", 0, 4)
            .is(0, "napkinOf", 0, 5).make("take 0").is(-1, "napkinOf", 0, 4).is(-1, "napkinOf", 0, 5);
    }

    @Says(promise = 11, words = "6 for how often it was folded so far")
    static void foldingsSoFar() {
        Probe x = Probe.after("new 0;new 0;fold 1s").is(0, "napkinOf", 0, 6);
        for (int often = 1; often <= 9; often++) {
            x.answer("fold", 0, often % 2 == 0 ? 3 : 2);
            x.is(often <= 8 ? often : 8, "napkinOf", 0, 6);
        }
        x.make("open 0;stain 0+1;wash 0").is(8, "napkinOf", 0, 6).is(1, "napkinOf", 1, 6);
    }

    @Says(promise = 11, words = "`napkin`: the napkin")
    static void firstAndLastNapkinAreTold() {
        Probe x = World.TEN_CAME.ready();
        for (int napkin = 0; napkin <= 9; napkin++) {
            x.is(napkin % 4, "napkinOf", napkin, 0);
        }
    }

    @Says(promise = 11, words = "Returns the number.")
    static void napkinOfAnswersTheSameTwice() {
        THREE_LIE.ready().is(9, "napkinOf", 1, 3).is(9, "napkinOf", 1, 3);
    }

    @Says(promise = 11, words = "Throws `IndexOutOfBoundsException` if there is no such napkin")
    static void noSuchNapkinToTell() {
        for (int what = 0; what <= 6; what++) {
            noSuchNapkin("napkinOf", what);
        }
    }

    @Says(promise = 11, words = "Throws `IllegalArgumentException` if what is not from 0 to 6")
    static void noSuchNumberOfANapkin() {
        ONE_CAME.failsForEach(Probe.outside(0, 6), NO_SUCH_NUMBER, "napkinOf", 0, EACH);
        World.TEN_CAME.failsForEach(Probe.outside(0, 6), NO_SUCH_NUMBER, "napkinOf", 9, EACH);
    }

    @Says(promise = 12, words = "Returns a number of a table.")
    static void numbersOfATable() {
        Probe x = new Probe().lay(0, "sf").lay(2, "s.csfc").make("read 2;read 0;read 2");
        int[][] due = {{2, 2, 1, 0, 1, 0}, {0, 0, 0, 0, 0, 0}, {6, 5, 2, 2, 2, 2}};
        for (int table = 0; table <= 2; table++) {
            for (int what = 0; what <= 5; what++) {
                x.is(due[table][what], "tableOf", table, what);
            }
        }
    }

    @Says(promise = 12, words = "0 for the napkins on it, 1 for those that it says, 2 for its swans, 3 for its crowns")
    static void emptyAndFullTables() {
        Probe.saying(1, "......").is(6, "tableOf", 1, 0).is(0, "tableOf", 1, 1).is(0, "tableOf", 1, 2).is(0, "tableOf", 1, 3);
        Probe.saying(1, "ssssss").is(6, "tableOf", 1, 0).is(6, "tableOf", 1, 1).is(6, "tableOf", 1, 2).is(0, "tableOf", 1, 3);
        Probe.saying(1, "cccccc").is(6, "tableOf", 1, 0).is(6, "tableOf", 1, 1).is(0, "tableOf", 1, 2).is(6, "tableOf", 1, 3);
        Probe.saying(1, "ffbbff").is(6, "tableOf", 1, 0).is(6, "tableOf", 1, 1).is(0, "tableOf", 1, 2).is(0, "tableOf", 1, 3);
    }

    @Says(promise = 12, words = "4 for how often a host read it so far, 5 for how often one was puzzled by it so far")
    static void readingsSoFar() {
        Probe x = Probe.saying(0, "sf");
        x.make("read 0;read 0").is(2, "tableOf", 0, 4).is(0, "tableOf", 0, 5);
        x.make("open 0;read 0").is(3, "tableOf", 0, 4).is(1, "tableOf", 0, 5);
        x.make("take 1").refuses(8, 1, "host", 0).is(3, "tableOf", 0, 4).is(1, "tableOf", 0, 5);
    }

    @Says(promise = 12, words = "`table`: the table")
    static void firstAndLastTableAreTold() {
        SIX_LIE.ready().is(1, "tableOf", 0, 0).is(6, "tableOf", 1, 0).is(1, "tableOf", 2, 0);
    }

    @Says(promise = 12, words = "Returns the number.")
    static void tableOfAnswersTheSameTwice() {
        SIX_LIE.ready().is(6, "tableOf", 1, 0).is(6, "tableOf", 1, 0);
    }

    @Says(promise = 12, words = "Throws `IndexOutOfBoundsException` if there is no such table")
    static void noSuchTableToTell() {
        for (int what = 0; what <= 5; what++) {
            SIX_LIE.failsForEach(Probe.outside(0, 2), NO_SUCH_ONE, "tableOf", EACH, what);
        }
    }

    @Says(promise = 12, words = "Throws `IllegalArgumentException` if what is not from 0 to 5")
    static void noSuchNumberOfATable() {
        World.NONE_CAME.failsForEach(Probe.outside(0, 5), NO_SUCH_NUMBER, "tableOf", 0, EACH);
        SIX_LIE.failsForEach(Probe.outside(0, 5), NO_SUCH_NUMBER, "tableOf", 2, EACH);
    }

    @Says(promise = 13, words = "Returns the napkin at a place of a table.")
    static void napkinAtAPlace() {
        Probe.after(World.TEN + ";lay 9 1;lay 3 1;lay 0 1").is(9, "seat", 1, 0).is(3, "seat", 1, 1).is(0, "seat", 1, 2);
    }

    @Says(promise = 13, words = "`table`: the table")
    static void firstAndLastTableHaveSeats() {
        SIX_LIE.ready().is(6, "seat", 0, 0).is(7, "seat", 2, 0);
    }

    @Says(promise = 13, words = "`place`: the place, from 0")
    static void firstAndLastPlace() {
        SIX_LIE.ready().is(0, "seat", 1, 0).is(5, "seat", 1, 5);
    }

    @Says(promise = 13, words = "Returns the napkin.")
    static void seatTellsUnfoldedNapkinsToo() {
        Probe.saying(0, ".s.").is(0, "seat", 0, 0).is(1, "seat", 0, 1).is(2, "seat", 0, 2);
    }

    @Says(promise = 13, words = "Throws `IndexOutOfBoundsException` if there is no such table")
    static void noSuchTableWithSeats() {
        SIX_LIE.failsForEach(Probe.outside(0, 2), NO_SUCH_ONE, "seat", EACH, 0);
        SIX_LIE.failsForEach(Probe.outside(0, 2), NO_SUCH_ONE, "seat", EACH, -1);
    }

    @Says(promise = 13, words = "Throws `NoSuchElementException` if there is no such place")
    static void noSuchPlace() {
        World.NONE_CAME.fails(NOTHING_THERE, "seat", 0, 0);
        THREE_LIE.failsForEach(Probe.outside(0, 2), NOTHING_THERE, "seat", 0, EACH);
        SIX_LIE.failsForEach(Probe.outside(0, 5), NOTHING_THERE, "seat", 1, EACH);
        SIX_LIE.ready().make("take 2").is(5, "seat", 1, 4).fails(NOTHING_THERE, "seat", 1, 5);
    }
}
