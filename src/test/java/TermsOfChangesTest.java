import java.util.Arrays;
import java.util.EnumSet;
import java.util.NoSuchElementException;

/** The part "Terms", sentence by sentence: changes, details and exceptions. */
public final class TermsOfChangesTest {
    private static final Class<IndexOutOfBoundsException> NO_SUCH_ONE = IndexOutOfBoundsException.class;
    private static final Class<IllegalArgumentException> NO_SUCH_NUMBER = IllegalArgumentException.class;
    private static final Class<NoSuchElementException> NOTHING_THERE = NoSuchElementException.class;
    private static final Class<IllegalStateException> NOT_NOW = IllegalStateException.class;

    private static final String[] CHANGES = {
        "napkin 3", "fold 2 4", "fold 0 2", "unfold 1", "lay 2 0", "lay 2 2", "take 0", "move 0 0 1", "stain 1 1", "wash 2", "host 0",
        "read"
    };

    public static void main(String[] args) throws ReflectiveOperationException {
        Sentences.run(TermsOfChangesTest.class);
    }

    // Changes.

    /** Eight changes, so that one more lets the earliest go; in the buffer stand two commands that go well. */
    private static Probe beforeAChange() {
        return new World("new 0;new 1;new 2;fold 0s;fold 1f;stain 2+5;lay 0 0;lay 1 0").typed("stain 0+1;open 0").ready();
    }

    private static Object change(Probe x, String change) {
        String[] words = change.split(" ");
        Object[] numbers = new Object[words.length - 1];
        for (int i = 0; i < numbers.length; i++) {
            numbers[i] = Integer.parseInt(words[i + 1]);
        }
        return x.answer(words[0], numbers);
    }

    @Says(words = "The changes are the successful calls of napkin, fold, unfold, lay, take, move, stain, wash, host and read.")
    static void eachChangeCountsOnce() {
        for (String change : CHANGES) {
            Probe x = beforeAChange();
            x.answer("save");
            x.is(3, "restore").is(0, "account", 11);
            Due.is(change + " goes well", false, () -> change(x, change).toString().startsWith("throws."));
            x.is(1, "account", 11).is(0, "undo").fails(NOT_NOW, "undo");
        }
    }

    @Says(words = "The changes are the successful calls of napkin, fold, unfold, lay, take, move, stain, wash, host and read.")
    static void callsThatThrowAreNoChanges() {
        World few = new World("new 0;lay 0 0");
        for (String call : new String[] {
            "napkin 4", "fold 0 5", "fold 1 1", "unfold 0", "lay 0 1", "take 1", "move 0 0 0", "move 0 0 1", "stain 0 0", "wash 0", "host 0"
        }) {
            Probe x = few.ready();
            Due.is(call + " throws", true, () -> change(x, call).toString().startsWith("throws."));
            x.is(2, "account", 11).is(1, "undo").is(-1, "napkinOf", 0, 4);
        }
        few.typed("fold 0s;take 0;take 0").ready().fails(UnsupportedOperationException.class, "read").is(2, "account", 11);
        few.typed("fold 0s;").ready().fails(NO_SUCH_NUMBER, "read").is(2, "account", 11);
    }

    @Says(words = "The changes are the successful calls of napkin, fold, unfold, lay, take, move, stain, wash, host and read.")
    static void otherCallsAreNoChanges() {
        Probe x = Probe.saying(0, "sf");
        x.answer("save");
        String before = x.state();
        Object[][] calls = {
            {"napkinOf", 0, 1}, {"tableOf", 0, 1}, {"seat", 0, 0}, {"said", 0, 0}, {"wrong", 0}, {"wrongAgain", 0}, {"isRight", 0},
            {"phrases", 0}, {"phraseOf", 0, 0, 0}, {"next", 0}, {"fewest", 0}, {"fewestAgain", 0}, {"doubt", 0}, {"doubtAgain", 0},
            {"sure", 0}, {"clearest", 0}, {"worn", 0}, {"isWell"}, {"type", 'x'}, {"show", 0}, {"tell", 0}, {"written", 0},
            {"account", 0}, {"meanStains"}, {"foldedShare"}, {"save"}, {"errorPosition"}, {"refusal", false, false}, {"read"}
        };
        for (Object[] call : calls) {
            x.answer(call[0].toString(), Arrays.copyOfRange(call, 1, call.length));
        }
        x.stateIs("after other calls", before).is(6, "account", 11);
    }

    @Says(words = "What there was before each of the latest 8 changes can be undone.")
    static void latestEightChanges() {
        String[] changes = "new 1;new 2;fold 1s;fold 0f;lay 1 1;stain 0+4;lay 0 1;read 1;move 1 10;read 1".split(";");
        for (int left = 7; left >= 0; left--) {
            Probe x = new Probe();
            Probe twin = new Probe();
            for (int i = 0; i < changes.length; i++) {
                x.make(changes[i]).is(Math.min(8, i + 1), "account", 11);
                twin.make(i < left + 2 ? changes[i] : "");
            }
            for (int undone = 7; undone >= left; undone--) {
                x.is(undone, "undo");
            }
            Due.is("what there was, " + left + " changes from the end", withoutTheLast(twin.state()), () -> withoutTheLast(x.state()));
            if (left == 0) {
                x.fails(NOT_NOW, "undo").is(2, "account", 0);
            }
        }
    }

    /** A state but for how many changes can be undone. */
    private static String withoutTheLast(String state) {
        return state.replaceAll(",\\d+, well", "");
    }

    @Says(words = "What there was before each of the latest 8 changes can be undone.")
    static void everyKindOfChangeIsUndone() {
        for (String change : CHANGES) {
            Probe x = beforeAChange();
            String before = withoutTheLast(x.state());
            Due.is(change + " goes well", false, () -> change(x, change).toString().startsWith("throws."));
            Due.is(change + " shows", false, () -> withoutTheLast(x.state()).equals(before));
            x.is(7, "undo");
            Due.is("what there was before " + change, before, () -> withoutTheLast(x.state()));
        }
    }

    // Details.

    @Says(words = "To wash a napkin takes all its stains away, and unfolds it if it is folded.")
    static void washedNapkin() {
        for (int stains = 1; stains <= 9; stains++) {
            for (int fold = 0; fold <= 4; fold++) {
                Probe x = Probe.after("new 0;stain 0+" + stains + (fold == 0 ? "" : ";fold 0" + Grammar.FOLDS.charAt(fold)));
                x.is(stains, "wash", 0).is(0, "napkinOf", 0, 3).is(0, "napkinOf", 0, 1).is(fold == 0 ? 0 : 1, "napkinOf", 0, 6);
            }
        }
    }

    @Says(words = "Napkins can be folded, unfolded and stained on a table, too.")
    static void changedOnATable() {
        Probe.after("new 0;lay 0 1").is(3, "fold", 0, 1).is(4, "fold", 0, 2).is(2, "unfold", 0).is(5, "stain", 0, 5)
            .is(1, "napkinOf", 0, 4).is(0, "napkinOf", 0, 5).row("0", 1).refuses(4, 1, "wash", 0);
    }

    @Says(words = "A table that says nothing is not right.")
    static void nothingIsNotRight() {
        for (String folds : new String[] {"", ".", "......"}) {
            Probe.saying(1, folds).is(false, "isRight", 1).is(0, "wrong", 1).is(0, "wrongAgain", 1).is(0, "phrases", 1).is(0, "account", 5)
                .fails(NOTHING_THERE, "fewest", 1).fails(NOTHING_THERE, "fewestAgain", 1).fails(ArithmeticException.class, "sure", 1);
        }
    }

    @Says(words = "The phrases of a table are told only if it is right.")
    static void phrasesOfARightTableAlone() {
        Probe x = Probe.saying(0, "sfcsf").is(2, "phrases", 0).is(1, "phraseOf", 0, 0, 0).is(1, "phraseOf", 0, 1, 0);
        x.make("open 4").is(0, "phrases", 0).fails(NOTHING_THERE, "phraseOf", 0, 0, 0).fails(NOTHING_THERE, "phraseOf", 0, 1, 0);
        x.make("open 3;open 2").is(1, "phrases", 0).is(1, "phraseOf", 0, 0, 1).fails(NOTHING_THERE, "phraseOf", 0, 1, 0);
    }

    @Says(words = "Which folds could be said next does not ask whether there is room on the table.")
    static void nextOnAFullTable() {
        Probe.saying(0, "ssssss").is(6, "next", 0);
        Probe.saying(0, "sssssf").is(24, "next", 0);
        Probe.saying(0, "ssssfb").is(16, "next", 0);
        Probe.saying(0, "sssfbc").is(2, "next", 0);
        Probe.saying(0, "......").is(2, "next", 0);
    }

    @Says(words = "How sure a table is, is never below 10.")
    static void leastSure() {
        Probe x = Probe.saying(0, "sfbcsf");
        for (int napkin = 0; napkin <= 5; napkin++) {
            x.make("stain " + napkin + "+9");
        }
        x.is(10, "sure", 0);
        for (int napkin = 0; napkin <= 4; napkin++) {
            x.make("open " + napkin).is(10, "sure", 0);
        }
    }

    // Exceptions.

    @Says(words = "A call that throws an exception leaves the state unchanged, unless its description says otherwise.")
    static void thrownCallsChangeNothing() {
        Object[][] calls = {
            {"napkin", 4}, {"fold", 10, 1}, {"fold", 0, 5}, {"unfold", 10}, {"lay", 10, 0}, {"lay", 7, 3}, {"take", 10}, {"move", 3, 0, 0},
            {"move", 1, 0, 6}, {"stain", 10, 1}, {"stain", 0, 10}, {"wash", 10}, {"host", 3}, {"napkinOf", 10, 0}, {"napkinOf", 0, 7},
            {"tableOf", 3, 0}, {"tableOf", 0, 6}, {"seat", 3, 0}, {"seat", 0, 1}, {"said", 3, 0}, {"said", 1, 2}, {"wrong", 3},
            {"wrongAgain", 3}, {"isRight", 3}, {"phrases", 3}, {"phraseOf", 3, 0, 0}, {"phraseOf", 1, 1, 0}, {"phraseOf", 1, 0, 4},
            {"next", 3}, {"fewest", 3}, {"fewest", 2}, {"fewestAgain", 3}, {"fewestAgain", 2}, {"doubt", 3}, {"doubtAgain", 3}, {"sure", 3},
            {"sure", 2}, {"clearest", 3}, {"worn", 10}, {"show", 3}, {"tell", 3}, {"written", 60}, {"account", 12}
        };
        for (Object[] call : calls) {
            Object[] arguments = Arrays.copyOfRange(call, 1, call.length);
            String thrown = World.FULL.ready().answer(call[0].toString(), arguments).toString();
            Due.is(Arrays.toString(call) + " throws", true, () -> thrown.startsWith("throws."));
            World.FULL.unchanged(EnumSet.noneOf(Probe.Part.class), call[0].toString(), arguments);
        }
    }

    @Says(words = "If several conditions of a method are fulfilled, the one that is listed first determines the exception.")
    static void firstConditionOfChanges() {
        World.FULL.fails(NO_SUCH_NUMBER, "napkin", 4);
        World.FULL.fails(NO_SUCH_ONE, "fold", 10, 5);
        World.FULL.fails(NO_SUCH_ONE, "fold", -1, 0);
        World.FULL.fails(NO_SUCH_NUMBER, "fold", 2, 0);
        World.FULL.fails(NO_SUCH_NUMBER, "fold", 9, 5);
        World.FULL.fails(NO_SUCH_ONE, "lay", 0, 3);
        World.FULL.fails(NO_SUCH_ONE, "lay", 10, 1);
        World.FULL.fails(NO_SUCH_ONE, "move", 3, 0, 0);
        World.FULL.fails(NO_SUCH_ONE, "move", 1, 6, 6);
        World.FULL.fails(NO_SUCH_ONE, "move", 1, -1, -1);
        World.FULL.fails(NO_SUCH_ONE, "stain", 10, 0);
        World.FULL.fails(NO_SUCH_NUMBER, "stain", 8, 10);
        World.FULL.fails(NO_SUCH_NUMBER, "stain", 8, 0);
        World.FULL.fails(NO_SUCH_NUMBER, "stain", 8, Integer.MAX_VALUE);
    }

    @Says(words = "If several conditions of a method are fulfilled, the one that is listed first determines the exception.")
    static void firstConditionOfNumbers() {
        World.FULL.fails(NO_SUCH_ONE, "napkinOf", 10, 7);
        World.FULL.fails(NO_SUCH_ONE, "napkinOf", -1, -1);
        World.FULL.fails(NO_SUCH_ONE, "tableOf", 3, 6);
        World.FULL.fails(NO_SUCH_ONE, "tableOf", -1, -1);
        World.FULL.fails(NO_SUCH_ONE, "seat", 3, 6);
        World.FULL.fails(NO_SUCH_ONE, "said", -1, -1);
        World.FULL.fails(NO_SUCH_ONE, "phraseOf", 3, 1, 4);
        World.FULL.fails(NO_SUCH_ONE, "phraseOf", 3, 0, 4);
        World.FULL.fails(NOTHING_THERE, "phraseOf", 1, 1, 4);
        World.FULL.fails(NOTHING_THERE, "phraseOf", 1, -1, -1);
        World.FULL.fails(NO_SUCH_ONE, "fewest", 3);
        World.FULL.fails(NO_SUCH_ONE, "fewestAgain", 3);
        World.FULL.fails(NO_SUCH_ONE, "sure", 3);
    }

    @Says(words = "If several conditions of a method are fulfilled, the one that is listed first determines the exception.")
    static void malformedBeforeRefused() {
        World.FULL.typed("new 4;x").malformed(6);
        World.FULL.typed("new 0;").malformed(6);
        World.FULL.typed("open 2;take 9;fold 9").malformed(20);
    }

    @Says(words = "The input buffer, the error position, the reason with its cause, "
        + "and the line that was written are neither undone nor saved.")
    static void keptThroughUndo() {
        Probe x = new World("new 0;fold 0s;lay 0 0").ready();
        EnumSet<Probe.Part> but = EnumSet.of(Probe.Part.STATE);
        String kept = x.told(but);
        for (int left = 2; left >= 0; left--) {
            x.is(left, "undo");
            Due.is("kept through undo", kept, () -> x.told(but));
        }
        x.is(1, "read").is(3, "napkinOf", 0, 0).is(0, "undo").is(0, "account", 10);
    }

    @Says(words = "The input buffer, the error position, the reason with its cause, "
        + "and the line that was written are neither undone nor saved.")
    static void keptThroughRestore() {
        Probe x = new World("new 0;fold 0s;lay 0 0").ready().make("save");
        x.read("x");
        x.read("stain 0+1;wash 0");
        x.make("stain 0+1").writes("S0?", "tell", 0).type("stain 0+4");
        EnumSet<Probe.Part> but = EnumSet.of(Probe.Part.STATE);
        String kept = x.told(but);
        x.is(1, "restore");
        Due.is("kept through restore", kept, () -> x.told(but));
        x.is(9, "account", 10).is(5, "errorPosition").refusal(9, 1).cause(4, 0).lineIs("S0?").is(1, "read").is(4, "napkinOf", 0, 3);
    }
}
