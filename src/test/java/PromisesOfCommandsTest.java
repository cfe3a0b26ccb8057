import java.util.NoSuchElementException;

/** Promises 29 to 35, sentence by sentence: commands and lines. */
public final class PromisesOfCommandsTest {
    private static final Class<IndexOutOfBoundsException> NO_SUCH_ONE = IndexOutOfBoundsException.class;
    private static final Class<NoSuchElementException> NOTHING_THERE = NoSuchElementException.class;
    private static final Object EACH = World.EACH;

    private static final String SIXTY = "new 0;new 0;new 0;new 0;new 0;new 0;new 0;new 0;new 0;fold 0";
    /** Napkin 0 lies folded and stained on table 0, napkin 1 unfolded; napkin 2 on table 1; napkin 3 on none. */
    private static final World SOME_LIE = new World(
        "new 0;new 1;new 2;new 3;fold 0s;save;stain 0+5;lay 0 0;lay 1 0;lay 2 1;fold 2f;stain 3+9;fold 3b;fold 3c");

    public static void main(String[] args) throws ReflectiveOperationException {
        Sentences.run(PromisesOfCommandsTest.class);
    }

    @Says(promise = 29, words = "Appends a character to the input buffer.")
    static void charactersAreAppended() {
        Probe.after("").is(1, "type", 'n').is(2, "type", 'e').is(3, "type", 'w').is(4, "type", ' ').is(5, "type", '2')
            .is(0, "account", 0).is(0, "account", 11).is(1, "read").is(2, "napkinOf", 0, 0);
    }

    @Says(promise = 29, words = "`character`: the character")
    static void everyCharacterIsTyped() {
        for (char sign : new char[] {'\0', '\n', ' ', ';', '~', '\u007f', '\u0080', '\u00ff', '\u0100', '\u7fff', '\u8000', '\uffff'}) {
            Probe.after("").is(1, "type", sign).is(2, "type", sign).is("throws.IllegalArgumentException", "read").is(0, "errorPosition");
        }
    }

    @Says(promise = 29, words = "Returns the number of characters in the buffer.")
    static void typeTellsTheNumber() {
        Probe x = new Probe();
        for (int number = 1; number <= 60; number++) {
            x.is(number, "type", 'n').is(number, "account", 10);
        }
        x.fails(IllegalArgumentException.class, "read").is(1, "type", 'n');
    }

    @Says(promise = 29, words = "Throws `IllegalStateException` if there are 60 characters")
    static void sixtyFirstCharacter() {
        SOME_LIE.typed(SIXTY).fails(IllegalStateException.class, "type", 's');
        SOME_LIE.typed(SIXTY).fails(IllegalStateException.class, "type", '\uffff');
        SOME_LIE.typed(SIXTY.substring(1)).ready().is(59, "account", 10).is(60, "type", 's')
            .fails(IllegalStateException.class, "type", 's');
        Probe full = World.NONE_CAME.typed(SIXTY).ready().fails(IllegalStateException.class, "type", 's');
        full.fails(IllegalArgumentException.class, "read").is(60, "errorPosition").is(1, "type", 's');
    }

    @Says(promise = 30, words = "Reads the input buffer as commands and carries them out, all of them or none.")
    static void allAreCarriedOut() {
        Probe x = new Probe().type("new 3;new 1;fold 0s;fold 1f;lay 1 2;lay 0 2;move 2 01;read 2").is(8, "read");
        x.is(2, "account", 0).row("01", 2).is(1, "napkinOf", 0, 1).is(2, "napkinOf", 1, 1).is(1, "account", 6).is(1, "account", 11);
        x.type("open 0;take 1;stain 1+3;wash 1").is(4, "read").row("0", 2).is(3, "account", 9).is(0, "account", 1).is(2, "account", 11);
        x.is(1, "undo").row("01", 2).is(0, "account", 9).is(1, "napkinOf", 0, 1).is(2, "napkinOf", 1, 1).is(0, "undo").is(0, "account", 0);
    }

    @Says(promise = 30, words = "Reads the input buffer as commands and carries them out, all of them or none.")
    static void noneIsCarriedOut() {
        String[] goingWell = {
            "new 2", "fold 1s", "open 0", "lay 3 2", "take 0", "move 0 01", "stain 1+4", "take 0;wash 0", "read 0"
        };
        for (String commands : goingWell) {
            int number = commands.split(";").length;
            SOME_LIE.typed(commands).ready().is(number, "read");
            SOME_LIE.typed(commands + ";wash 2").refusesText(number, 4, 1);
            SOME_LIE.typed(commands + ";fold 9s").refusesText(number);
            SOME_LIE.typed(commands + ";").malformed(commands.length() + 1);
        }
    }

    @Says(promise = 30, words = "The buffer is empty afterwards, also if an exception is thrown.")
    static void bufferIsEmptyAfterwards() {
        SOME_LIE.typed("new 0").ready().is(5, "account", 10).is(1, "read").is(0, "account", 10).is(1, "type", 'n');
        SOME_LIE.typed("new 4").ready().fails(UnsupportedOperationException.class, "read").is(0, "account", 10).is(1, "type", 'n');
        SOME_LIE.typed("new x").ready().fails(IllegalArgumentException.class, "read").is(0, "account", 10).is(1, "type", 'n');
        SOME_LIE.typed("").ready().fails(IllegalArgumentException.class, "read").is(0, "account", 10).is(1, "type", 'n');
        SOME_LIE.typed("new 4").ready().is("throws.UnsupportedOperationException", "read").type("new 3").is(1, "read")
            .is(3, "napkinOf", 4, 0);
    }

    @Says(promise = 30, words = "Returns the number of commands.")
    static void readTellsTheNumber() {
        new Probe().type("new 0").is(1, "read").type("new 0;new 0").is(2, "read");
        new Probe().type("new 0;new 1;new 2;new 3;new 0;new 1;new 2;new 3;new 0;new 1").is(59, "account", 10).is(10, "read")
            .is(10, "account", 0).is(1, "account", 11).is(0, "undo").is(0, "account", 0);
    }

    @Says(promise = 30, words = "Throws `IllegalArgumentException` if the text is malformed")
    static void malformedTexts() {
        String[] texts = {"", ";", "new", "new 0;", ";new 0", "new 0;;new 0", "new 0 ", " new 0", "New 0", "new 0,new 0", "read", "\u0100"};
        for (String text : texts) {
            SOME_LIE.typed(text).ready().fails(IllegalArgumentException.class, "read");
        }
        SOME_LIE.typed("").malformed(0);
        SOME_LIE.typed("new 0;fold 1x").malformed(12);
        SOME_LIE.typed("take 3;x").malformed(7);
        World.NONE_CAME.typed("new 0;").malformed(6);
        World.NONE_CAME.bare().typed("q").malformed(0);
    }

    @Says(promise = 30, words = "the error position is then kept for errorPosition")
    static void errorPositionIsKept() {
        SOME_LIE.typed("new 0;fold 1x").ready().is(4, "errorPosition").is("throws.IllegalArgumentException", "read")
            .is(12, "errorPosition").is(12, "errorPosition");
    }

    @Says(promise = 30, words = "Throws `UnsupportedOperationException` if it is refused, for the reason 9")
    static void refusedTexts() {
        SOME_LIE.typed("fold 0s").refusesText(0, 2, 1);
        SOME_LIE.typed("open 1").refusesText(0, 2, 0);
        SOME_LIE.typed("fold 0b;fold 0s;fold 0b;fold 0s").refusesText(3, 3, 10);
        SOME_LIE.typed("lay 2 2").refusesText(0, 4, 1);
        SOME_LIE.typed("new 0;take 3").refusesText(1, 5, 3);
        SOME_LIE.typed("move 0 11").refusesText(0, 2, 1);
        SOME_LIE.typed("stain 0+5").refusesText(0, 6, 5);
        SOME_LIE.typed("wash 0").refusesText(0, 4, 0);
        SOME_LIE.typed("wash 3;wash 3").refusesText(1, 7, 3);
        SOME_LIE.typed("read 2").refusesText(0, 8, 0);
        SOME_LIE.typed("open 0;read 0").refusesText(1, 8, 2);
    }

    @Says(promise = 30, words = "Throws `UnsupportedOperationException` if it is refused, for the reason 9")
    static void fullRefusesTexts() {
        World.NONE_CAME.typed("new 0;new 0;new 0;new 0;new 0;new 0;new 0;new 0;new 0;new 0").ready().is(10, "read");
        new World("save;new 0").typed("new 0;new 0;new 0;new 0;new 0;new 0;new 0;new 0;new 0;new 0").refusesText(9, 1, 10);
        new World("new 0;new 0;new 0;new 0;new 0;new 0;new 0;save;lay 0 1;lay 1 1;lay 2 1;lay 3 1;lay 4 1")
            .typed("lay 5 1;lay 6 1").refusesText(1, 1, 6);
    }

    @Says(promise = 30, words = "Throws `UnsupportedOperationException` if it is refused, for the reason 9")
    static void commandsThatWouldThrowAnotherException() {
        String[] texts = {
            "new 4", "new 9", "fold 4s", "fold 9c", "open 4", "lay 4 0", "lay 3 3", "lay 0 9", "take 4", "move 3 00", "move 0 02",
            "move 0 20", "move 2 00", "stain 4+1", "stain 1+0", "wash 4", "read 3", "read 9"
        };
        for (String text : texts) {
            SOME_LIE.typed(text).refusesText(0);
            SOME_LIE.typed("stain 1+1;" + text).refusesText(1);
        }
    }

    @Says(promise = 31, words = "Returns the error position of the latest text that was malformed.")
    static void latestErrorPosition() {
        Probe x = new Probe();
        String[] texts = {"q", "nq", "neq", "newq", "new q", "new 0q", "new 0;q"};
        for (int position = 0; position < texts.length; position++) {
            x.read(texts[position]);
            x.is(position, "errorPosition");
        }
        x.read("new 1");
        x.is(6, "errorPosition").read("new 4");
        x.is(6, "errorPosition").read("");
        x.is(0, "errorPosition");
    }

    @Says(promise = 31, words = "Returns the error position.")
    static void lowestAndHighestErrorPosition() {
        Probe x = new Probe();
        x.read("");
        x.is(0, "errorPosition").read(SIXTY);
        x.is(60, "errorPosition").read(SIXTY.substring(1) + "s");
        x.is(0, "errorPosition").read(SIXTY.substring(0, 59) + "s");
        x.is(59, "errorPosition").read(SIXTY.substring(0, 59));
        x.is(59, "errorPosition");
    }

    @Says(promise = 31, words = "Throws `NoSuchElementException` if there was none")
    static void noTextWasMalformed() {
        World.NONE_CAME.bare().fails(NOTHING_THERE, "errorPosition");
        Probe x = new Probe().type("new 0").is(1, "read").fails(NOTHING_THERE, "errorPosition");
        x.type("new 4").fails(UnsupportedOperationException.class, "read").fails(NOTHING_THERE, "errorPosition");
        x.type("q").fails(NOTHING_THERE, "errorPosition").fails(IllegalArgumentException.class, "read").is(0, "errorPosition");
    }

    @Says(promise = 32, words = "Returns a number about the latest refusal, or about its cause.")
    static void latestRefusal() {
        Probe x = SOME_LIE.ready().refusal(9, 1).cause(2, 0);
        x.refuses(8, 0, "host", 2).is(5, "account", 10);
        x.read(";lay 0 1");
        x.refusal(9, 1).cause(4, 0).refuses(6, 9, "stain", 3, 1);
        x.read("new 3;new 4");
        x.refusal(9, 1).noCause();
    }

    @Says(promise = 32, words = "`isCause`: whether the cause is told")
    static void causeAndRefusal() {
        SOME_LIE.ready().is(9, "refusal", false, false).is(2, "refusal", true, false);
    }

    @Says(promise = 32, words = "`isDetail`: true for the detail, false for the reason")
    static void reasonAndDetail() {
        SOME_LIE.ready().is(1, "refusal", false, true).is(0, "refusal", true, true);
    }

    @Says(promise = 32, words = "Returns the number.")
    static void refusalTellsTheSameTwice() {
        Probe x = SOME_LIE.ready().refuses(4, 1, "lay", 2, 0);
        x.refusal(4, 1).noCause();
    }

    @Says(promise = 32, words = "Throws `NoSuchElementException` if nothing was refused, or there is no cause")
    static void nothingWasRefused() {
        for (boolean isDetail : new boolean[] {false, true}) {
            World.NONE_CAME.bare().fails(NOTHING_THERE, "refusal", false, isDetail);
            World.NONE_CAME.bare().fails(NOTHING_THERE, "refusal", true, isDetail);
        }
        Probe.after("new 0").fails(NO_SUCH_ONE, "take", 1).fails(IllegalArgumentException.class, "napkin", 4)
            .fails(IllegalArgumentException.class, "read").fails(IllegalStateException.class, "restore").noRefusal();
    }

    @Says(promise = 32, words = "Throws `NoSuchElementException` if nothing was refused, or there is no cause")
    static void noCauseOfARefusal() {
        new Probe().refuses(8, 0, "host", 0);
        Probe x = new Probe().type("read 0").fails(UnsupportedOperationException.class, "read").cause(8, 0);
        x.type("read 3").fails(UnsupportedOperationException.class, "read").refusal(9, 0).noCause();
    }

    @Says(promise = 33, words = "Writes a table, in place of the line before")
    static void shownLineReplaces() {
        SOME_LIE.ready().make("fold 0f").writes("0f*1.", "show", 0).writes("2f", "show", 1).writes("", "show", 2).writes("2f", "show", 1)
            .writes("F2", "tell", 1).writes("2f", "show", 1);
    }

    @Says(promise = 33, words = "for each napkin on it its number, and \"s\", \"f\", \"b\" or \"c\" if it is folded, "
        + "or \".\", and \"*\" if it has stains")
    static void shownNapkins() {
        Probe x = Probe.saying(2, "sfbc.s").writes("0s1f2b3c4.5s", "show", 2);
        for (int napkin = 0; napkin <= 5; napkin++) {
            x.make("stain " + napkin + "+" + (napkin == 3 ? 9 : 1));
        }
        x.writes("0s*1f*2b*3c*4.*5s*", "show", 2).make("move 2 05;take 2").writes("1f*3c*4.*5s*0s*", "show", 2);
    }

    @Says(promise = 33, words = "as in \"0s3s*1.2f\".")
    static void shownExample() {
        Probe.after("new 0;new 0;new 0;new 0;fold 0s;fold 3s;fold 2f;stain 3+1;lay 0 0;lay 3 0;lay 1 0;lay 2 0")
            .writes("0s3s*1.2f", "show", 0);
    }

    @Says(promise = 33, words = "`table`: the table")
    static void firstAndLastTableAreShown() {
        new Probe().lay(0, "s").lay(2, "b").writes("0s", "show", 0).writes("1b", "show", 2);
    }

    @Says(promise = 33, words = "Returns how many characters it has.")
    static void lengthsOfShownLines() {
        Probe.after("new 0;new 0;new 0;new 0;new 0;new 0;new 0;new 0;new 0;new 0;lay 9 1").writes("9.", "show", 1).is(0, "show", 0);
        Probe.saying(0, "......").is(12, "show", 0).make("stain 5+1").is(13, "show", 0);
    }

    @Says(promise = 33, words = "Throws `IndexOutOfBoundsException` if there is no such table")
    static void noSuchTableIsShown() {
        World.NONE_CAME.failsForEach(Probe.outside(0, 2), NO_SUCH_ONE, "show", EACH);
        SOME_LIE.failsForEach(Probe.outside(0, 2), NO_SUCH_ONE, "show", EACH);
    }

    @Says(promise = 34, words = "Writes what a table says, in place of the line before")
    static void toldLineReplaces() {
        SOME_LIE.ready().writes("S0?", "tell", 0).writes("F2", "tell", 1).writes("", "tell", 2).writes("S0?", "tell", 0)
            .writes("0s*1.", "show", 0).writes("F2", "tell", 1);
    }

    @Says(promise = 34, words = "for a swan, a fan and a boat the letter \"S\", \"F\" or \"B\" and the colour, for a crown \"+\"")
    static void toldNapkins() {
        for (int colour = 0; colour <= 3; colour++) {
            Probe.saying(1, "s.fbc", colour, 0, colour, colour, colour)
                .writes("S" + colour + " F" + colour + " B" + colour + " +", "tell", 1);
        }
        Probe.saying(1, "cccccc").writes("+ + + + + +", "tell", 1);
        Probe.saying(1, ".....b", 1, 1, 1, 1, 1, 3).writes("B3", "tell", 1);
    }

    @Says(promise = 34, words = "and \"?\" behind each with stains, with a blank between two")
    static void toldStains() {
        Probe x = Probe.saying(0, "sfbcs", 0, 1, 2, 3, 0);
        x.make("stain 3+1").writes("S0 F1 B2 +? S0", "tell", 0).make("stain 0+9").writes("S0? F1 B2 +? S0", "tell", 0);
        x.make("stain 1+1;stain 2+1;stain 4+2").writes("S0? F1? B2? +? S0?", "tell", 0);
        Probe.saying(2, "sssssb", 3, 3, 3, 3, 3, 3).make("stain 0+1;stain 1+1;stain 2+1;stain 3+1;stain 4+1;stain 5+1")
            .writes("S3? S3? S3? S3? S3? B3?", "tell", 2);
    }

    @Says(promise = 34, words = "as in \"S0 S3? F3 + S1 F1\".")
    static void toldExample() {
        Probe.saying(0, "ssfcsf", 0, 3, 3, 0, 1, 1).make("stain 1+1").writes("S0 S3? F3 + S1 F1", "tell", 0);
    }

    @Says(promise = 34, words = "`table`: the table")
    static void firstAndLastTableAreTold() {
        new Probe().lay(0, "s", 1).lay(2, "b", 2).writes("S1", "tell", 0).writes("B2", "tell", 2);
    }

    @Says(promise = 34, words = "Returns how many characters it has.")
    static void lengthsOfToldLines() {
        Probe.saying(0, "......").make("stain 0+1").is(0, "tell", 0).make("fold 0c").is(2, "tell", 0).make("fold 0s").is(3, "tell", 0);
        new Probe().is(0, "tell", 0);
    }

    @Says(promise = 34, words = "Throws `IndexOutOfBoundsException` if there is no such table")
    static void noSuchTableIsTold() {
        World.NONE_CAME.failsForEach(Probe.outside(0, 2), NO_SUCH_ONE, "tell", EACH);
        SOME_LIE.failsForEach(Probe.outside(0, 2), NO_SUCH_ONE, "tell", EACH);
    }

    @Says(promise = 35, words = "Returns a character of the line.")
    static void charactersOfTheLine() {
        SOME_LIE.ready().is('0', "written", 0).is('s', "written", 1).is('*', "written", 2).is('1', "written", 3).is('.', "written", 4);
    }

    @Says(promise = 35, words = "`index`: the index, from 0")
    static void firstAndLastIndex() {
        Probe.saying(0, "sfbcsf", 1, 1, 1, 1, 1, 2).is(16, "tell", 0).is('S', "written", 0).is('2', "written", 15);
        Probe.saying(0, "s").make("stain 0+1").is(3, "show", 0).is('0', "written", 0).is('*', "written", 2);
    }

    @Says(promise = 35, words = "Returns the character.")
    static void lineStaysAsItWasWritten() {
        SOME_LIE.ready().make("fold 0f;take 0").lineIs("0s*1.").is(5, "account", 10).is(1, "read").lineIs("0s*1.");
    }

    @Says(promise = 35, words = "Throws `NoSuchElementException` if there is none")
    static void noSuchCharacter() {
        SOME_LIE.failsForEach(Probe.outside(0, 4), NOTHING_THERE, "written", EACH);
        World.NONE_CAME.bare().failsForEach(Probe.outside(0, -1), NOTHING_THERE, "written", EACH);
        Probe.saying(0, "ssssss").is(17, "tell", 0).is(0, "tell", 1).fails(NOTHING_THERE, "written", 0);
    }
}
