/** Promises 36 to 41, sentence by sentence: accounts, undo, and the snapshot. */
public final class PromisesOfAccountsTest {
    private static final Class<IllegalArgumentException> NO_SUCH_NUMBER = IllegalArgumentException.class;
    private static final Class<IllegalStateException> NOT_NOW = IllegalStateException.class;
    private static final Object EACH = World.EACH;

    private static final World SOME_LIE = new World(
        "new 0;new 1;new 2;fold 0s;fold 1f;lay 0 0;save;lay 1 0;read 0;stain 2+5;wash 2;stain 0+3;open 0;read 0");

    public static void main(String[] args) throws ReflectiveOperationException {
        Sentences.run(PromisesOfAccountsTest.class);
    }

    @Says(promise = 36, words = "Returns an account.")
    static void accountsTogether() {
        Probe x = SOME_LIE.ready();
        int[] due = {3, 1, 2, 4, 3, 0, 1, 1, 2, 5, 5, 8};
        for (int what = 0; what <= 11; what++) {
            x.is(due[what], "account", what);
        }
    }

    @Says(promise = 36, words = "0 for the napkins")
    static void accountOfNapkins() {
        Probe x = new Probe().is(0, "account", 0);
        for (int number = 1; number <= 10; number++) {
            x.make("new 1").is(number, "account", 0);
        }
        x.refuses(1, 10, "napkin", 0).is(10, "account", 0);
    }

    @Says(promise = 36, words = "1 for those that are folded")
    static void accountOfFolded() {
        Probe x = Probe.after(World.TEN).is(0, "account", 1);
        for (int napkin = 0; napkin <= 9; napkin++) {
            x.make("fold " + napkin + "sfbc".charAt(napkin % 4)).is(napkin + 1, "account", 1);
        }
        x.make("fold 0b").is(10, "account", 1).make("open 0").is(9, "account", 1).make("stain 9+1;wash 9").is(8, "account", 1);
    }

    @Says(promise = 36, words = "2 for those on tables")
    static void accountOfLying() {
        Probe x = Probe.after(World.TEN).is(0, "account", 2);
        for (int napkin = 0; napkin <= 9; napkin++) {
            x.make("lay " + napkin + " " + (napkin == 6 ? 1 : napkin > 6 ? 2 : 0)).is(napkin + 1, "account", 2);
        }
        x.make("take 0").is(9, "account", 2).make("take 9;take 6").is(7, "account", 2);
    }

    @Says(promise = 36, words = "3 for the creases of all")
    static void accountOfCreases() {
        Probe.after("new 0;new 0").is(0, "account", 3).make("fold 0s").is(3, "account", 3).make("fold 1f").is(4, "account", 3)
            .make("fold 1b").is(6, "account", 3).make("fold 0c").is(8, "account", 3).make("open 0;open 1").is(8, "account", 3);
    }

    @Says(promise = 36, words = "4 for the stains of all")
    static void accountOfStains() {
        Probe x = Probe.after(World.TEN).is(0, "account", 4);
        for (int napkin = 0; napkin <= 9; napkin++) {
            x.make("stain " + napkin + "+9").is(9 * (napkin + 1), "account", 4);
        }
        x.make("wash 0").is(81, "account", 4).make("wash 9").is(72, "account", 4);
    }

    @Says(promise = 36, words = "5 for the tables that are right")
    static void accountOfRightTables() {
        new Probe().is(0, "account", 5).lay(0, "sf").is(1, "account", 5).lay(2, "sf").is(2, "account", 5).lay(1, "sf").is(3, "account", 5)
            .make("open 1").is(2, "account", 5).make("open 3").is(1, "account", 5).make("take 4;take 5").is(0, "account", 5);
    }

    @Says(promise = 36, words = "6 for the phrases understood so far")
    static void accountOfPhrasesUnderstood() {
        new Probe().lay(0, "sfcsf").lay(2, "sf").is(0, "account", 6).make("read 0").is(2, "account", 6).make("read 2").is(3, "account", 6)
            .make("read 0").is(5, "account", 6).make("open 0;read 0").is(5, "account", 6).make("take 0").is(5, "account", 6);
    }

    @Says(promise = 36, words = "7 for how often hosts were puzzled so far")
    static void accountOfPuzzledHosts() {
        new Probe().lay(0, "s").lay(1, "f").lay(2, "sf").is(0, "account", 7).make("read 0").is(1, "account", 7)
            .make("read 1").is(2, "account", 7).make("read 0").is(3, "account", 7).make("read 2").is(3, "account", 7).make("open 2;read 2").is(4, "account", 7)
            .make("open 0").refuses(8, 1, "host", 0).is(4, "account", 7);
    }

    @Says(promise = 36, words = "8 for the foldings so far")
    static void accountOfFoldings() {
        Probe.after("new 0;new 0").is(0, "account", 8).make("fold 0s").is(1, "account", 8).make("fold 1s").is(2, "account", 8)
            .make("fold 0f").is(3, "account", 8).make("open 0").is(3, "account", 8).make("fold 0f").is(4, "account", 8)
            .refuses(2, 2, "fold", 0, 2).is(4, "account", 8).make("stain 0+1;wash 0").is(4, "account", 8);
    }

    @Says(promise = 36, words = "9 for the stains washed away so far")
    static void accountOfStainsWashedAway() {
        Probe.after("new 0;new 0;stain 0+9;stain 1+1").is(0, "account", 9).make("wash 0").is(9, "account", 9)
            .make("wash 1").is(10, "account", 9).make("stain 0+2").is(10, "account", 9).make("wash 0").is(12, "account", 9);
    }

    @Says(promise = 36, words = "10 for the characters in the buffer")
    static void accountOfCharacters() {
        Probe x = new Probe().is(0, "account", 10).type("new 0").is(5, "account", 10);
        x.answer("read");
        x.is(0, "account", 10);
        for (int number = 1; number <= 60; number++) {
            x.type(";").is(number, "account", 10);
        }
        x.fails(NOT_NOW, "type", ';').is(60, "account", 10);
    }

    @Says(promise = 36, words = "11 for the changes that can be undone")
    static void accountOfChanges() {
        Probe x = new Probe().is(0, "account", 11);
        for (int number = 1; number <= 10; number++) {
            x.make("new 0").is(Math.min(8, number), "account", 11);
        }
        x.is(7, "undo").is(7, "account", 11).make("new 0").is(8, "account", 11).is(0, "account", 10);
    }

    @Says(promise = 36, words = "`what`: 0 for the napkins")
    static void lowestAndHighestAccount() {
        Probe.after("new 0;new 0;new 0;fold 0s").is(3, "account", 0).is(4, "account", 11);
    }

    @Says(promise = 36, words = "Returns the account.")
    static void accountTellsTheSameTwice() {
        SOME_LIE.ready().is(4, "account", 3).is(4, "account", 3);
    }

    @Says(promise = 36, words = "Throws `IllegalArgumentException` if what is not from 0 to 11")
    static void noSuchAccount() {
        World.NONE_CAME.failsForEach(Probe.outside(0, 11), NO_SUCH_NUMBER, "account", EACH);
        SOME_LIE.failsForEach(Probe.outside(0, 11), NO_SUCH_NUMBER, "account", EACH);
    }

    @Says(promise = 37, words = "Returns the mean of the stains of the napkins, the sum divided by their number, both converted to double.")
    static void meansOfAllSums() {
        for (int napkins = 1; napkins <= 10; napkins++) {
            Probe x = Probe.after(World.TEN.substring(0, 6 * napkins - 1)).is(0.0, "meanStains");
            for (int napkin = 0; napkin < napkins; napkin++) {
                x.make("stain " + napkin + "+7").is((double) (9 * napkin + 7) / (double) napkins, "meanStains");
                x.make("stain " + napkin + "+2").is((double) (9 * napkin + 9) / (double) napkins, "meanStains");
            }
        }
    }

    @Says(promise = 37, words = "Returns the mean.")
    static void leastAndMostMean() {
        Probe.after("new 0").is(0.0, "meanStains").make("stain 0+9").is(9.0, "meanStains").make("new 0").is(4.5, "meanStains")
            .make("new 0").is(3.0, "meanStains").make("wash 0;stain 2+1").is(0.3333333333333333, "meanStains");
    }

    @Says(promise = 37, words = "Throws `ArithmeticException` if there are none")
    static void noMean() {
        World.NONE_CAME.fails(ArithmeticException.class, "meanStains");
        Probe.after("new 0").is(0, "undo").fails(ArithmeticException.class, "meanStains");
    }

    @Says(promise = 38, words = "Returns the share of the napkins that are folded, both numbers converted to float.")
    static void sharesOfAllNumbers() {
        for (int napkins = 1; napkins <= 10; napkins++) {
            Probe x = Probe.after(World.TEN.substring(0, 6 * napkins - 1)).is(0.0f, "foldedShare");
            for (int folded = 1; folded <= napkins; folded++) {
                x.make("fold " + (folded - 1) + "c").is((float) folded / (float) napkins, "foldedShare");
            }
        }
    }

    @Says(promise = 38, words = "Returns the share")
    static void leastAndMostShare() {
        Probe.after("new 0").is(0.0f, "foldedShare").make("fold 0s").is(1.0f, "foldedShare").make("new 0").is(0.5f, "foldedShare")
            .make("new 0").is(0.33333334f, "foldedShare").make("open 0").is(0.0f, "foldedShare");
    }

    @Says(promise = 38, words = "Throws `ArithmeticException` if there are no napkins")
    static void noShare() {
        World.NONE_CAME.fails(ArithmeticException.class, "foldedShare");
        Probe.after("new 0").is(0, "undo").fails(ArithmeticException.class, "foldedShare");
    }

    @Says(promise = 39, words = "Undoes the latest change that can be undone.")
    static void latestChangeIsUndone() {
        Probe x = Probe.after("new 1;new 2").is(1, "undo").is(1, "account", 0).is(1, "napkinOf", 0, 0);
        x.make("new 3;fold 1s").is(2, "undo").is(3, "napkinOf", 1, 0).is(0, "napkinOf", 1, 1);
        x.is(1, "undo").is(0, "undo").is(0, "account", 0);
    }

    @Says(promise = 39, words = "Returns how many can still be undone.")
    static void undoTellsHowMany() {
        Probe x = Probe.after(World.TEN);
        for (int left = 7; left >= 0; left--) {
            x.is(left, "undo").is(left, "account", 11);
        }
        x.fails(NOT_NOW, "undo").is(2, "account", 0);
    }

    @Says(promise = 39, words = "Throws `IllegalStateException` if there is none")
    static void nothingToUndo() {
        World.NONE_CAME.fails(NOT_NOW, "undo");
        World.NONE_CAME.bare().fails(NOT_NOW, "undo");
        Probe.after("new 0").is(0, "undo").fails(NOT_NOW, "undo").make("save;new 0").is(0, "restore").fails(NOT_NOW, "undo")
            .make("new 0").is(0, "undo").fails(NOT_NOW, "undo");
    }

    @Says(promise = 40, words = "Takes a snapshot of all that changes can change, in place of an earlier one.")
    static void laterSnapshotReplaces() {
        Probe x = SOME_LIE.ready();
        String saved = x.state();
        x.make("save;new 0;fold 2b;take 1;stain 2+9;wash 2;fold 0s;read 0;lay 2 2;lay 1 1").is(3, "restore");
        x.stateIs("restored", saved.replaceAll(",8, well", ",0, well"));
    }

    @Says(promise = 40, words = "Takes a snapshot of all that changes can change, in place of an earlier one.")
    static void saveChangesNothing() {
        Probe x = SOME_LIE.ready();
        Probe twin = SOME_LIE.ready();
        x.make("save").stateIs("after save", twin.state());
        for (int left = 7; left >= 0; left--) {
            x.is(left, "undo");
            twin.answer("undo");
        }
        x.stateIs("undone after save", twin.state());
    }

    @Says(promise = 40, words = "Returns the napkins.")
    static void saveTellsTheNapkins() {
        Probe x = new Probe().is(0, "save");
        for (int number = 1; number <= 10; number++) {
            x.make("new 0").is(number, "save");
        }
    }

    @Says(promise = 41, words = "Restores the snapshot, which stays")
    static void snapshotStays() {
        Probe x = Probe.after("new 1;fold 0s;save;new 2;open 0").is(1, "restore").is(1, "napkinOf", 0, 1).is(1, "account", 0);
        x.make("fold 0f;lay 0 1;new 3;new 3").is(1, "restore").is(1, "napkinOf", 0, 1).is(1, "account", 0).row("", 1);
        x.is(1, "restore").is(1, "account", 0).make("open 0").is(0, "undo").is(1, "restore").is(1, "napkinOf", 0, 1);
    }

    @Says(promise = 41, words = "then no change can be undone.")
    static void restoreLeavesNothingToUndo() {
        Probe x = Probe.after("save;" + World.TEN).is(8, "account", 11).is(0, "restore").is(0, "account", 11).fails(NOT_NOW, "undo");
        x.make("new 0;new 0").is(2, "account", 11).is(1, "undo").is(1, "account", 0).is(0, "undo").fails(NOT_NOW, "undo");
    }

    @Says(promise = 41, words = "Returns the napkins.")
    static void restoreTellsTheNapkins() {
        Probe.after("save;new 0").is(0, "restore").make(World.TEN + ";save").is(10, "restore").is(10, "account", 0);
        Probe.after("new 0;new 0;save").is(1, "undo").is(0, "undo").is(2, "restore");
    }

    @Says(promise = 41, words = "Throws `IllegalStateException` if there is no snapshot")
    static void nothingToRestore() {
        new World("").fails(NOT_NOW, "restore");
        new World("").bare().fails(NOT_NOW, "restore");
        new World(World.TEN).fails(NOT_NOW, "restore");
        new Probe().fails(NOT_NOW, "restore").is(0, "save").is(0, "restore");
    }
}
