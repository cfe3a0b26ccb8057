import java.util.NoSuchElementException;

/** The part "Terms", sentence by sentence: napkins, tables, sentences and hosts. */
public final class TermsTest {
    private static final Class<IndexOutOfBoundsException> NO_SUCH_ONE = IndexOutOfBoundsException.class;
    private static final Class<IllegalArgumentException> NO_SUCH_NUMBER = IllegalArgumentException.class;
    private static final Class<NoSuchElementException> NOTHING_THERE = NoSuchElementException.class;


    public static void main(String[] args) throws ReflectiveOperationException {
        Sentences.run(TermsTest.class);
    }

    // Napkins.

    @Says(words = "A napkin unfolded says nothing.")
    static void unfoldedNapkinSaysNothing() {
        Probe.saying(0, "...").make("stain 1+3").is(3, "tableOf", 0, 0).is(0, "tableOf", 0, 1).fails(NOTHING_THERE, "said", 0, 0)
            .is(0, "tell", 0).is(0, "doubt", 0).make("fold 1s").is(1, "tableOf", 0, 1).is(1, "said", 0, 0).is(3, "doubt", 0)
            .make("open 1").is(0, "tableOf", 0, 1).fails(NOTHING_THERE, "said", 0, 0);
    }

    @Says(words = "All numbers are integers but two")
    static void twoNumbersHaveFractions() {
        Probe.after("new 0;new 0;stain 0+1;fold 1s").is(0.5, "meanStains").is(0.5f, "foldedShare");
    }

    @Says(words = "divisions are rounded down.")
    static void sureIsRoundedDown() {
        Probe.saying(0, "sfb").make("stain 0+2").is(93, "sure", 0).make("stain 1+2").is(86, "sure", 0);
        Probe.saying(0, "sfbcsf").make("stain 0+7").is(88, "sure", 0).make("stain 1+9").is(73, "sure", 0);
    }

    @Says(words = "At most 10 napkins come, numbered from 0, each with a colour from 0 to 3")
    static void tenNapkinsOfFourColours() {
        Probe x = new Probe().fails(NO_SUCH_NUMBER, "napkin", -1).fails(NO_SUCH_NUMBER, "napkin", 4);
        for (int number = 0; number <= 9; number++) {
            x.is(number, "napkin", number % 4).is(number % 4, "napkinOf", number, 0);
        }
        x.refuses(1, 10, "napkin", 0).is(10, "account", 0).fails(NO_SUCH_ONE, "napkinOf", 10, 0);
    }

    @Says(words = "each has creases, at first none, and stains from 0 to 9, at first none.")
    static void creasesAndStainsAtFirst() {
        Probe x = new Probe();
        for (int number = 0; number <= 9; number++) {
            x.make("new 3").is(0, "napkinOf", number, 2).is(0, "napkinOf", number, 3);
        }
        x.is(9, "stain", 0, 9).refuses(6, 9, "stain", 0, 1).is(9, "napkinOf", 0, 3).is(9, "stain", 9, 9).refuses(6, 9, "stain", 9, 1);
    }

    @Says(words = "A napkin is unfolded, with the fold 0, as at first, or it is folded: "
        + "1 to a swan, 2 to a fan, 3 to a boat, 4 to a crown.")
    static void foldsByTheirNumbers() {
        Probe x = Probe.after("new 2;lay 0 0").is(0, "napkinOf", 0, 1).writes("0.", "show", 0).is(0, "tell", 0);
        x.is(3, "fold", 0, 1).is(1, "napkinOf", 0, 1).writes("0s", "show", 0).writes("S2", "tell", 0).is(1, "tableOf", 0, 2);
        x.is(4, "fold", 0, 2).is(2, "napkinOf", 0, 1).writes("0f", "show", 0).writes("F2", "tell", 0).is(0, "tableOf", 0, 2);
        x.is(6, "fold", 0, 3).is(3, "napkinOf", 0, 1).writes("0b", "show", 0).writes("B2", "tell", 0).is(0, "tableOf", 0, 3);
        x.is(8, "fold", 0, 4).is(4, "napkinOf", 0, 1).writes("0c", "show", 0).writes("+", "tell", 0).is(1, "tableOf", 0, 3);
        x.is(4, "unfold", 0).is(0, "napkinOf", 0, 1).writes("0.", "show", 0);
        x.fails(NO_SUCH_NUMBER, "fold", 0, 0).fails(NO_SUCH_NUMBER, "fold", 0, 5);
    }

    @Says(words = "To fold a napkin makes 3 creases for a swan, 1 for a fan, and 2 for a boat or a crown")
    static void creasesOfEachFold() {
        int[] due = {3, 1, 2, 2};
        for (int fold = 1; fold <= 4; fold++) {
            Probe.after("new 0").is(due[fold - 1], "fold", 0, fold).is(due[fold - 1], "napkinOf", 0, 2);
            int other = fold == 4 ? 1 : fold + 1;
            Probe.after("new 0").is(due[other - 1], "fold", 0, other).is(due[other - 1] + due[fold - 1], "fold", 0, fold);
        }
    }

    @Says(words = "a napkin has at most 12 creases.")
    static void everyFoldAtEveryNumberOfCreases() {
        int[] more = {0, 3, 1, 2, 2};
        for (int creases = 0; creases <= 12; creases++) {
            for (int fold = 1; fold <= 4; fold++) {
                Probe x = Probe.after("new 0" + ";fold 0f;open 0".repeat(creases)).is(creases, "napkinOf", 0, 2);
                if (creases + more[fold] <= 12) {
                    x.is(creases + more[fold], "fold", 0, fold).is(fold, "napkinOf", 0, 1);
                } else {
                    x.refuses(3, creases, "fold", 0, fold).is(creases, "napkinOf", 0, 2).is(0, "napkinOf", 0, 1);
                }
            }
        }
    }

    @Says(words = "A napkin that is folded can be folded otherwise at once.")
    static void foldedOtherwiseAtOnce() {
        for (int fold = 1; fold <= 4; fold++) {
            for (int other = 1; other <= 4; other++) {
                Probe x = Probe.after("new 0;fold 0" + Grammar.FOLDS.charAt(fold));
                if (fold != other) {
                    x.make("fold 0" + Grammar.FOLDS.charAt(other)).is(other, "napkinOf", 0, 1).is(2, "napkinOf", 0, 6);
                } else {
                    x.refuses(2, fold, "fold", 0, other).is(fold, "napkinOf", 0, 1).is(1, "napkinOf", 0, 6);
                }
            }
        }
    }

    @Says(words = "Creases stay when it is unfolded.")
    static void creasesStay() {
        Probe.after("new 0;fold 0s;open 0").is(3, "napkinOf", 0, 2).make("fold 0s;open 0").is(6, "napkinOf", 0, 2)
            .make("fold 0s;fold 0b;open 0").is(11, "napkinOf", 0, 2).is(11, "account", 3).refuses(3, 11, "fold", 0, 3);
    }

    // Tables.

    @Says(words = "There are the tables 0 to 2.")
    static void threeTables() {
        Probe.after("new 0;new 0;new 0").is(0, "lay", 0, 0).is(0, "lay", 1, 1).is(0, "lay", 2, 2)
            .is(0, "napkinOf", 0, 4).is(1, "napkinOf", 1, 4).is(2, "napkinOf", 2, 4)
            .fails(NO_SUCH_ONE, "tableOf", -1, 0).fails(NO_SUCH_ONE, "tableOf", 3, 0);
    }

    @Says(words = "A napkin lies on one table, or on none, as at first.")
    static void onOneTableOrNone() {
        Probe.after("new 0").is(-1, "napkinOf", 0, 4).is(-1, "napkinOf", 0, 5)
            .make("lay 0 2").is(2, "napkinOf", 0, 4).is(0, "napkinOf", 0, 5)
            .refuses(4, 2, "lay", 0, 0).row("", 0).row("0", 2).make("take 0;lay 0 0").row("0", 0).row("", 2).is(0, "napkinOf", 0, 4)
            .make("take 0").is(-1, "napkinOf", 0, 4).is(-1, "napkinOf", 0, 5);
    }

    @Says(words = "On a table at most 6 napkins lie in a row, with the places from 0 on.")
    static void sixInARow() {
        for (int table = 0; table <= 2; table++) {
            Probe x = Probe.after(World.TEN);
            for (int place = 0; place <= 5; place++) {
                x.is(place, "lay", 9 - place, table).is(9 - place, "seat", table, place).is(place, "napkinOf", 9 - place, 5);
            }
            x.refuses(1, 6, "lay", 0, table).is(6, "tableOf", table, 0).is(-1, "napkinOf", 0, 4).fails(NOTHING_THERE, "seat", table, 6);
        }
    }

    @Says(words = "When one is taken away, the places of the later ones become 1 less.")
    static void laterPlacesBecomeLess() {
        for (int taken = 0; taken <= 5; taken++) {
            String left = new StringBuilder("012345").deleteCharAt(taken).toString();
            Probe x = World.FULL.ready().is(taken, "take", taken).row(left, 1).row("6", 0);
            for (int napkin = 0; napkin <= 5; napkin++) {
                x.is(napkin == taken ? -1 : napkin < taken ? napkin : napkin - 1, "napkinOf", napkin, 5);
                x.is(napkin == taken ? -1 : 1, "napkinOf", napkin, 4);
            }
        }
    }

    // Sentences.

    @Says(words = "A table says, in the order of its row, the napkins that are folded")
    static void saidInTheOrderOfTheRow() {
        Probe.after("new 0;new 1;new 2;fold 0s;fold 1f;fold 2b;lay 2 0;lay 0 0;lay 1 0").writes("B2 S0 F1", "tell", 0)
            .make("move 0 02").writes("S0 F1 B2", "tell", 0).is(true, "isRight", 0).make("open 1").writes("S0 B2", "tell", 0);
    }

    @Says(words = "these are numbered from 0 as what is said.")
    static void numbersOfWhatIsSaid() {
        Probe.saying(1, ".s..fb").is(1, "said", 1, 0).is(4, "said", 1, 1).is(5, "said", 1, 2).fails(NOTHING_THERE, "said", 1, 3)
            .fails(NOTHING_THERE, "said", 1, -1).is(3, "tableOf", 1, 1);
    }

    private static void right(String... rows) {
        for (String row : rows) {
            Probe.saying(0, row).is(true, "isRight", 0).is(-1, "wrong", 0);
        }
    }

    private static void notRight(String... rows) {
        for (String row : rows) {
            Probe.saying(0, row).is(false, "isRight", 0).is(0, "phrases", 0);
        }
    }

    @Says(words = "A sentence is one phrase, or several phrases with a crown between each two.")
    static void phrasesWithCrownsBetween() {
        right("sf", "sfcsf", "sfbcsf", "sfcsfb", "ssfcsf", "sfcssf");
        notRight("csf", "sfc", "csfcsf", "sfcsfc", "sfccsf", "sfsf", "sfbsf", "c", "cc");
    }

    @Says(words = "A phrase is one swan or more, its subjects, then a fan, its mood, then a boat or not, its object.")
    static void partsOfAPhrase() {
        right("sf", "ssf", "sssssf", "sfb", "ssfb", "ssssfb");
        notRight("s", "f", "b", "fb", "sb", "fs", "sff", "sfbb", "bsf", "sbf", "sfs", "ssssss");
    }

    @Says(words = "A table is right if all that it says is a sentence.")
    static void allThatIsSaid() {
        right("s.f", ".sf", "sf.", "..s.fb");
        notRight("sfs", "fsf", "sff", "s.f.f.");
    }

    @Says(words = "A phrase agrees if its fan has the colour of one of its swans.")
    static void coloursOfFanAndSwans() {
        for (int swan = 0; swan <= 3; swan++) {
            for (int fan = 0; fan <= 3; fan++) {
                Probe.saying(0, "sfb", swan, fan, fan).is(swan == fan ? 1 : 0, "phraseOf", 0, 0, 3);
            }
        }
        Probe.saying(0, "sssfb", 0, 1, 2, 1, 3).is(1, "phraseOf", 0, 0, 3);
        Probe.saying(0, "s.f", 0, 1, 1).is(0, "phraseOf", 0, 0, 3);
        Probe.saying(0, "sfcsf", 0, 1, 1, 1, 0).is(0, "phraseOf", 0, 0, 3).is(0, "phraseOf", 0, 1, 3);
        Probe.saying(0, "sfcsf", 0, 1, 1, 2, 2).is(0, "phraseOf", 0, 0, 3).is(1, "phraseOf", 0, 1, 3);
    }

    // Hosts.

    @Says(words = "A host reads a table: if it is right, as many phrases as it has are understood")
    static void phrasesAreUnderstood() {
        Probe.saying(2, "sfcsf").is(2, "host", 2).is(2, "account", 6).is(2, "host", 2).is(4, "account", 6).is(0, "account", 7)
            .is(2, "tableOf", 2, 4).is(0, "tableOf", 2, 5).make("open 2;open 3;open 4").is(1, "host", 2).is(5, "account", 6);
    }

    @Says(words = "otherwise the host is puzzled once.")
    static void hostIsPuzzled() {
        Probe.saying(2, "sfcs").is(0, "host", 2).is(1, "account", 7).is(1, "tableOf", 2, 5).is(0, "host", 2).is(2, "account", 7)
            .is(2, "tableOf", 2, 5).is(2, "tableOf", 2, 4).is(0, "account", 6).is(0, "tableOf", 1, 5);
    }
}
