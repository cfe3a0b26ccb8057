import java.util.Arrays;
import java.util.Set;
import java.util.TreeSet;

/** The part "What it is": all that it names in one object's life, and lives of 512 calls. */
public final class WhatItIsTest {
    private static final int CALLS = 512;

    private static final World AT_WORK = new World("new 0;new 1;new 2;new 3;new 0;new 1;save;fold 0s;fold 1f;fold 2b;lay 0 0;lay 1 0;"
        + "lay 2 0;stain 1+4;stain 5+2;read 0");

    /** Every call of the face, each so that it goes well on AT_WORK. */
    private static final Object[][] FINE = {
        {"napkin", 3}, {"fold", 0, 4}, {"unfold", 0}, {"lay", 5, 1}, {"take", 2}, {"move", 0, 0, 2}, {"stain", 3, 1}, {"wash", 5},
        {"host", 0}, {"napkinOf", 1, 0}, {"tableOf", 0, 1}, {"seat", 0, 2}, {"said", 0, 1}, {"wrong", 0}, {"wrongAgain", 0},
        {"isRight", 0}, {"phrases", 0}, {"phraseOf", 0, 0, 2}, {"next", 0}, {"fewest", 0}, {"fewestAgain", 0}, {"doubt", 0},
        {"doubtAgain", 0}, {"sure", 0}, {"clearest", 0}, {"worn", 0}, {"isWell"}, {"type", 'x'}, {"read"}, {"errorPosition"},
        {"refusal", true, true}, {"show", 0}, {"tell", 0}, {"written", 1}, {"account", 8}, {"meanStains"}, {"foldedShare"}, {"undo"},
        {"save"}, {"restore"}
    };

    /** Calls that throw on AT_WORK. */
    private static final Object[][] THROWN = {
        {"napkin", 4}, {"fold", 6, 1}, {"take", 5}, {"lay", 0, 1}, {"seat", 0, 3}, {"sure", 1}, {"fewest", 1}, {"account", 12}
    };

    public static void main(String[] args) throws ReflectiveOperationException {
        Sentences.run(WhatItIsTest.class);
    }

    @Says(part = "What it is", words = "A syntax of folded napkins: napkins with colours that are folded to swans, fans, boats and crowns, "
        + "creases that wear them, stains as doubt, tables on which they lie in rows and say sentences, sentences that are parsed in two "
        + "ways, phrases and whether they agree, what could come next, the fewest napkins to unfold so that a table is right, told in two "
        + "ways, doubt told in two ways, hosts who read tables, tables and napkins in orders, lines, commands as texts done whole or not "
        + "at all, reasons with details and causes, accounts, undo, and a snapshot.")
    static void allOfItInOneLife() {
        Probe x = Probe.after("new 0;new 1;new 0;new 1;new 2").is(3, "fold", 0, 1).is(1, "fold", 1, 2).is(2, "fold", 2, 3)
            .is(2, "fold", 3, 4).is(2, "napkinOf", 3, 2);
        x.make("lay 0 1;lay 1 1;lay 2 1;stain 1+4").row("012", 1).is(-1, "wrong", 1).is(-1, "wrongAgain", 1).is(1, "phrases", 1)
            .is(0, "phraseOf", 1, 0, 3).is(16, "next", 1).is(4, "doubt", 1).is(4, "doubtAgain", 1).is(86, "sure", 1);
        x.make("lay 3 1").is(4, "wrong", 1).is(4, "wrongAgain", 1).is(2, "next", 1).is(1, "fewest", 1).is(1, "fewestAgain", 1)
            .is(0, "host", 1).is(1, "account", 7).make("take 3").is(1, "host", 1).is(1, "account", 6);
        x.is(1, "clearest", 0).is(0, "clearest", 1).is(0, "worn", 0).is(2, "worn", 1).is(3, "worn", 2).is(1, "worn", 3).is(4, "worn", 4);
        x.writes("0s1f*2b", "show", 1).writes("S0 F1? B0", "tell", 1).is('?', "written", 5);
        x.type("fold 4s;lay 4 1;move 1 30").is(3, "read").row("4012", 1).is(2, "phraseOf", 1, 0, 0).is(7, "undo").row("012", 1);
        x.type("fold 4s;lay 4 1;lay 4 0").fails(UnsupportedOperationException.class, "read").refusal(9, 2).cause(4, 1).row("012", 1);
        x.is(5, "save").make("open 0;open 1;open 2").is(0, "tableOf", 1, 1).is(5, "restore").is(3, "tableOf", 1, 1);
        x.is(0, "account", 11).is(true, "isWell");
    }

    @Says(part = "What it is", words = "An object is used for at most 512 calls after it has been made;")
    static void eachCallIsTheLastOne() {
        for (Object[] call : FINE) {
            lastCall(call, false);
        }
        for (Object[] call : THROWN) {
            lastCall(call, true);
        }
    }

    /** The call with the number 512 answers as the same call much earlier. */
    private static void lastCall(Object[] call, boolean isThrown) {
        String name = call[0].toString();
        Object[] arguments = Arrays.copyOfRange(call, 1, call.length);
        Object early = AT_WORK.ready().answer(name, arguments);
        Due.is(Arrays.toString(call) + " throws", isThrown, () -> early.toString().startsWith("throws."));
        Probe x = waited(AT_WORK.ready(), CALLS - 1).is(early, name, arguments);
        Due.is("calls until then", CALLS, x::calls);
    }

    private static Probe waited(Probe x, int calls) {
        while (x.calls() < calls) {
            x.answer("isWell");
        }
        return x;
    }

    @Says(part = "What it is", words = "An object is used for at most 512 calls after it has been made;")
    static void everyCallOfTheFaceIsTried() {
        Set<String> names = new TreeSet<>(Probe.names());
        for (Object[] call : FINE) {
            names.remove(call[0].toString());
        }
        Due.is("calls that are not tried", "[]", () -> names);
    }

    @Says(part = "What it is", words = "An object is used for at most 512 calls after it has been made;")
    static void allIsToldWithTheLastCalls() {
        Probe twin = AT_WORK.ready();
        int until = twin.calls();
        String early = twin.state();
        Probe x = waited(AT_WORK.ready(), CALLS - (twin.calls() - until)).stateIs("the state in the last calls", early);
        Due.is("calls until then", CALLS, x::calls);
    }

    @Says(part = "What it is", words = "An object is used for at most 512 calls after it has been made;")
    static void readingsOfALongLife() {
        Probe x = Probe.saying(1, "s");
        while (x.calls() < CALLS - 5) {
            x.answer("host", 1);
        }
        x.is(503, "tableOf", 1, 4).is(503, "tableOf", 1, 5).is(503, "account", 7).is(0, "account", 6).is(8, "account", 11);
    }

    @Says(part = "What it is", words = "An object is used for at most 512 calls after it has been made;")
    static void phrasesOfALongLife() {
        Probe x = Probe.saying(2, "sfcsf");
        while (x.calls() < CALLS - 4) {
            x.answer("host", 2);
        }
        x.is(488, "tableOf", 2, 4).is(976, "account", 6).is(7, "undo").is(974, "account", 6);
    }

    @Says(part = "What it is", words = "An object is used for at most 512 calls after it has been made;")
    static void stainsOfALongLife() {
        Probe x = Probe.after("new 0");
        while (x.calls() < CALLS - 3) {
            x.is(9, "stain", 0, 9).is(9, "wash", 0);
        }
        x.is(2286, "account", 9).is(0, "account", 4).is(0, "napkinOf", 0, 3);
    }

    @Says(part = "What it is", words = "An object is used for at most 512 calls after it has been made;")
    static void textsOfALongLife() {
        Probe x = Probe.after(World.TEN);
        for (int often = 1; often <= 8; often++) {
            x.type("stain 0+1;wash 0;stain 0+1;wash 0;stain 0+1;wash 0;stain " + often + "+1");
            x.fails(IllegalStateException.class, "type", ';').is(7, "read");
        }
        x.is(24, "account", 9).is(8, "account", 4).is(8, "account", 11).is(7, "undo").is(21, "account", 9);
    }
}
