import java.util.NoSuchElementException;

/** The part "Terms", sentence by sentence: commands and reasons. */
public final class TermsOfCommandsTest {
    private static final Class<IndexOutOfBoundsException> NO_SUCH_ONE = IndexOutOfBoundsException.class;
    private static final Class<IllegalArgumentException> NO_SUCH_NUMBER = IllegalArgumentException.class;
    private static final Class<NoSuchElementException> NOTHING_THERE = NoSuchElementException.class;
    private static final Class<IllegalStateException> NOT_NOW = IllegalStateException.class;

    private static final String[] SAMPLES = {
        "new 0", "fold 0s", "fold 9c", "open 0", "take 1", "wash 2", "read 0", "lay 0 1", "move 0 12", "stain 0+1"
    };

    public static void main(String[] args) throws ReflectiveOperationException {
        Sentences.run(TermsOfCommandsTest.class);
    }

    // Commands.

    @Says(words = "A text of commands has the form below: a napkin comes, with its colour")
    static void commandNew() {
        for (int colour = 0; colour <= 3; colour++) {
            new Probe().type("new " + colour).is(1, "read").is(1, "account", 0).is(colour, "napkinOf", 0, 0);
        }
        World.NONE_CAME.typed("new 4").refusesText(0);
    }

    @Says(words = "a napkin is folded, to a swan, a fan, a boat or a crown by its letter, or unfolded")
    static void commandsFoldAndOpen() {
        for (int fold = 1; fold <= 4; fold++) {
            World.TEN_CAME.typed("fold 9" + Grammar.FOLDS.charAt(fold)).ready().is(1, "read").is(fold, "napkinOf", 9, 1).is(1, "account", 1)
                .type("open 9").is(1, "read").is(0, "napkinOf", 9, 1);
        }
    }

    @Says(words = "a napkin is laid on a table, or taken away")
    static void commandsLayAndTake() {
        for (int table = 0; table <= 2; table++) {
            World.TEN_CAME.typed("lay 9 " + table + ";lay 0 " + table).ready().is(2, "read").row("90", table)
                .type("take 9").is(1, "read").row("0", table);
        }
    }

    @Says(words = "a napkin is moved on a table, from a place to a place")
    static void commandMove() {
        World.FULL.typed("move 1 05").ready().is(1, "read").row("123450", 1).type("move 1 31").is(1, "read").row("142350", 1);
    }

    @Says(words = "a napkin gets stains, or is washed")
    static void commandsStainAndWash() {
        World.TEN_CAME.typed("stain 9+1;stain 0+9").ready().is(2, "read").is(1, "napkinOf", 9, 3).is(9, "napkinOf", 0, 3)
            .type("wash 0").is(1, "read").is(0, "napkinOf", 0, 3).is(9, "account", 9);
    }

    @Says(words = "a host reads a table.")
    static void commandRead() {
        Probe.saying(2, "sfcsf").type("read 2").is(1, "read").is(2, "account", 6).is(1, "tableOf", 2, 4);
    }

    @Says(words = "commands = command { \";\" command }")
    static void rowsOfCommands() {
        for (String first : SAMPLES) {
            for (String second : SAMPLES) {
                for (String between : new String[] {";", "", " ", ";;", "; ", " ;", ",", ":"}) {
                    Form.holds(first + between + second);
                    Form.holds(first + ";" + second + between);
                    Form.holds(between + first);
                }
            }
        }
    }

    @Says(words = "command = \"new \" digit | \"fold \" digit letter | ( \"open \" | \"take \" | \"wash \" | \"read \" ) digit "
        + "| \"lay \" digit \" \" digit | \"move \" digit \" \" digit digit | \"stain \" digit \"+\" digit")
    static void oneCharacterOtherwise() {
        // The last five are a blank, "+", "0", ";" and "s", each with 256 more.
        String signs = "/0123456789:;+ sfbcnotwrlmadekhipvq\u00e9\u0120\u012b\u0130\u013b\u0173";
        for (String sample : SAMPLES) {
            for (int index = 0; index <= sample.length(); index++) {
                Form.holds(sample.substring(0, index));
                for (char sign : signs.toCharArray()) {
                    Form.holds(new StringBuilder(sample).insert(index, sign).toString());
                    if (index < sample.length()) {
                        Form.holds(sample.substring(0, index) + sign + sample.substring(index + 1));
                        Form.holds(sample.substring(0, index) + sample.substring(index + 1));
                    }
                }
            }
        }
    }

    @Says(words = "command = \"new \" digit |")
    static void everyDigit() {
        for (char sign = 0; sign < 1024; sign++) {
            Form.holds("new " + sign);
        }
        for (char sign : new char[] {'\u0660', '\u0966', '\uff10', '\uff19', '\uffff', '0' + 256, '9' + 65280}) {
            Form.holds("stain 0+" + sign);
        }
    }

    @Says(words = "letter = \"s\" | \"f\" | \"b\" | \"c\"")
    static void everyLetter() {
        for (char sign = 0; sign < 1024; sign++) {
            Form.holds("fold 0" + sign);
        }
    }

    @Says(words = "The input buffer has at most 60 characters.")
    static void sixtyCharacters() {
        Probe x = Probe.saying(1, "s").type("new 0;".repeat(9) + "read ").is(59, "account", 10).is(60, "type", '1')
            .fails(NOT_NOW, "type", '1').fails(NOT_NOW, "type", ';').is(60, "account", 10);
        // A napkin is there before the nine, which come with the text of sixty characters.
        x.is(10, "read").is(10, "account", 0).is(1, "tableOf", 1, 4).is(0, "account", 10).is(1, "type", 'n');
    }

    @Says(words = "The input buffer has at most 60 characters.")
    static void sixtyCharactersThatAreMalformed() {
        String fiftyNine = "new 0;".repeat(9) + "read ";
        World.NONE_CAME.typed(fiftyNine).malformed(59);
        World.NONE_CAME.typed(fiftyNine + "x").malformed(59);
        World.NONE_CAME.typed("new 0;".repeat(9) + "fold 0").malformed(60);
        World.NONE_CAME.typed("new 0;".repeat(10)).malformed(60);
        World.NONE_CAME.typed(";".repeat(60)).malformed(0);
        World.NONE_CAME.typed("new 0;".repeat(10)).fails(NOT_NOW, "type", 'n');
    }

    @Says(words = "The error position of a text that is malformed is the lowest index of a character with which, "
        + "after those before it, no text of this form can go on, or the length of the text if there is no such index")
    static void lowestIndexOrTheLength() {
        malformed(0, "", "x", " ", ";", "xx", "NEW 0", "0", "\u0661");
        malformed(3, "new", "newx", "new;", "new0", "lay", "layx");
        malformed(4, "new ", "new x", "new ;", "new  0", "lay ", "lay x", "wash", "wash0", "fold", "foldx");
        malformed(5, "new 00", "new 0 ", "lay 0", "lay 00", "lay 0;", "stain", "stainx", "open ", "move x");
        malformed(6, "new 0;", "new 0;x", "new 0;;", "new 0; ", "fold 0", "fold 0x", "open 00", "lay 0 ", "lay 0 x", "move 0");
        malformed(7, "stain 1", "stain 1-1x", "stain 11", "fold 0ss", "lay 0 12", "move 0 ", "move 0 x", "new 0;n");
        malformed(8, "move 0 1", "move 0 1 1", "move 0 1;", "stain 0+", "stain 0++1", "fold 0s;");
        malformed(9, "move 0 123", "stain 0+12", "stain 0+1 ");
        malformed(11, "take 0;take", "take 0;takex", "new 0;new 0x");
    }

    private static void malformed(int errorPosition, String... texts) {
        for (String text : texts) {
            new Probe().type(text).fails(NO_SUCH_NUMBER, "read").is(errorPosition, "errorPosition");
        }
    }

    @Says(words = "words are looked at letter by letter.")
    static void wordsLetterByLetter() {
        malformed(0, "xew 0", "host 0", "unfold 0", "New 0");
        malformed(1, "n", "nxw 0", "f", "fx", "w", "wsh", "m", "mx", "lo", "sx", "sw", "tx", "rx", "ox");
        malformed(2, "ne", "nex 0", "fo", "fox", "stx", "la", "lax 1", "wa", "wax", "tax", "rex", "opx", "mox");
        malformed(3, "fol", "folx", "stax", "was", "wasx", "tak", "takx 1", "rea 1", "opex 1", "movx");
        malformed(4, "open", "take", "wash", "read", "move", "stai", "staix", "wash;", "readx");
    }

    // Reasons.

    @Says(words = "A call is refused for the first of the reasons that its method names, "
        + "in the order in which it names them, with a detail")
    static void firstReasonDecides() {
        // The same fold, and more than 12 creases: 2 before 3.
        new World("save;new 0;fold 0b;fold 0c;fold 0b;fold 0s;fold 0c;fold 0f").refuses(2, 2, "fold", 0, 2);
        new World("save;new 0;fold 0b;fold 0c;fold 0b;fold 0c;fold 0b;fold 0c").refuses(2, 4, "fold", 0, 4);
        // It lies on a table, and 6 lie there: 4 before 1.
        World.FULL.refuses(4, 1, "lay", 0, 1);
        World.FULL.refuses(4, 0, "lay", 6, 1);
        // It lies on a table, and has no stains: 4 before 7.
        World.FULL.refuses(4, 1, "wash", 0);
    }

    @Says(words = "1, there are 10 napkins, or 6 on the table: this number")
    static void reason1() {
        World.FULL.refuses(1, 10, "napkin", 0);
        World.FULL.refuses(1, 10, "napkin", 3);
        World.FULL.refuses(1, 6, "lay", 7, 1);
        World.FULL.typed("new 0").refusesText(0, 1, 10);
        World.FULL.typed("lay 7 0;lay 8 1").refusesText(1, 1, 6);
        World.FULL.ready().is(1, "lay", 7, 0).make("take 0").is(5, "lay", 8, 1).refuses(1, 6, "lay", 9, 1);
    }

    @Says(words = "2, it is so already: the fold, or the place")
    static void reason2() {
        World.FULL.refuses(2, 1, "fold", 0, 1);
        World.FULL.refuses(2, 4, "fold", 9, 4);
        World.FULL.refuses(2, 0, "unfold", 2);
        World.FULL.refuses(2, 0, "move", 1, 0, 0);
        World.FULL.refuses(2, 5, "move", 1, 5, 5);
        World.FULL.typed("fold 1f").refusesText(0, 2, 2);
        World.FULL.typed("open 1;open 1").refusesText(1, 2, 0);
        World.FULL.typed("move 1 55").refusesText(0, 2, 5);
    }

    @Says(words = "3, there would be more than 12 creases: how many there are")
    static void reason3() {
        World.FULL.refuses(3, 12, "fold", 9, 2);
        new World("save;new 0;fold 0s;fold 0b;fold 0s;fold 0b").refuses(3, 10, "fold", 0, 1);
        new World("save;new 0;fold 0s;fold 0b;fold 0s;fold 0b").ready().is(12, "fold", 0, 4);
        new World("save;new 0;fold 0s;fold 0b;fold 0s;fold 0b;fold 0f").refuses(3, 11, "fold", 0, 4);
        World.FULL.typed("fold 9f").refusesText(0, 3, 12);
    }

    @Says(words = "4, the napkin lies on a table: the table")
    static void reason4() {
        World.FULL.refuses(4, 0, "lay", 6, 2);
        World.FULL.refuses(4, 0, "wash", 6);
        World.FULL.refuses(4, 1, "lay", 5, 0);
        World.FULL.typed("lay 9 2;wash 9").refusesText(1, 4, 2);
        World.FULL.typed("lay 6 0").refusesText(0, 4, 0);
    }

    @Says(words = "5, it lies on none: the napkin")
    static void reason5() {
        World.TEN_CAME.refuses(5, 0, "take", 0);
        World.FULL.refuses(5, 7, "take", 7);
        World.FULL.refuses(5, 9, "take", 9);
        World.FULL.typed("take 6;take 6").refusesText(1, 5, 6);
    }

    @Says(words = "6, there would be more than 9 stains: how many there are")
    static void reason6() {
        World.FULL.refuses(6, 9, "stain", 8, 1);
        World.FULL.refuses(6, 4, "stain", 6, 6);
        World.FULL.refuses(6, 4, "stain", 6, 9);
        World.FULL.ready().is(9, "stain", 6, 5);
        World.FULL.typed("stain 6+5;stain 6+1").refusesText(1, 6, 9);
    }

    @Says(words = "7, there are no stains: the napkin")
    static void reason7() {
        World.FULL.refuses(7, 7, "wash", 7);
        World.FULL.refuses(7, 9, "wash", 9);
        World.TEN_CAME.refuses(7, 0, "wash", 0);
        World.FULL.typed("wash 8;wash 8").refusesText(1, 7, 8);
    }

    @Says(words = "8, the table says nothing: how many napkins lie on it")
    static void reason8() {
        World.FULL.refuses(8, 1, "host", 0);
        World.FULL.refuses(8, 0, "host", 2);
        World.FULL.typed("open 0;open 1;read 1").refusesText(2, 8, 6);
        World.FULL.typed("read 1;read 2").refusesText(1, 8, 0);
    }

    @Says(words = "9, a command of a text is refused, or its call would throw another exception: its number, from 0, "
        + "with the reason for which it is refused as the cause, if it is.")
    static void reason9() {
        World.TEN_CAME.typed("take 0").refusesText(0, 5, 0);
        World.NONE_CAME.typed("new 0;new 0;new 0;new 0;new 0;new 0;new 0;new 0;new 0;open 0").refusesText(9, 2, 0);
        World.NONE_CAME.typed("new 0;new 0;new 0;new 0;new 0;new 0;new 0;new 0;new 0;new 4").refusesText(9);
        World.NONE_CAME.typed("open 0").refusesText(0);
        World.NONE_CAME.typed("read 3").refusesText(0);
        World.TEN_CAME.typed("stain 0+0").refusesText(0);
    }

    @Says(words = "9, a command of a text is refused, or its call would throw another exception: its number, from 0, "
        + "with the reason for which it is refused as the cause, if it is.")
    static void reason9OfTheFirstCommand() {
        World.TEN_CAME.typed("open 0;fold 0s").refusesText(0, 2, 0);
        World.TEN_CAME.typed("open 0;take 9;lay 0 0").refusesText(0, 2, 0);
        World.TEN_CAME.typed("open 0;fold 0s;new 4").refusesText(0, 2, 0);
        World.NONE_CAME.typed("new 4;new 0").refusesText(0);
        World.NONE_CAME.typed("open 0;new 0").refusesText(0);
        World.TEN_CAME.typed("stain 0+0;open 0").refusesText(0);
        World.TEN_CAME.typed("lay 0 3;take 9;new 4;fold 1s").refusesText(0);
        World.TEN_CAME.typed("fold 0s;lay 0 3;take 0;fold 1s").refusesText(1);
    }

    @Says(words = "The reason, its detail, and the cause with its detail, of the latest refusal are kept.")
    static void latestRefusalIsKept() {
        Probe x = new Probe().noRefusal().refuses(8, 0, "host", 0).make("new 0;lay 0 0").refusal(8, 0).noCause();
        x.fails(NO_SUCH_ONE, "host", 3).fails(NO_SUCH_NUMBER, "fold", 0, 5).fails(NO_SUCH_NUMBER, "read").fails(NOT_NOW, "restore")
            .fails(NOTHING_THERE, "seat", 0, 1).refusal(8, 0).noCause();
        x.refuses(4, 0, "lay", 0, 1);
        x.read("stain 0+3;wash 0");
        x.refusal(9, 1).cause(4, 0);
        x.make("take 0").refusal(9, 1).cause(4, 0).fails(NO_SUCH_ONE, "take", 1).fails(NO_SUCH_NUMBER, "read").refusal(9, 1).cause(4, 0);
        x.read("open 1");
        x.refusal(9, 0).noCause().refuses(7, 0, "wash", 0);
    }
}
